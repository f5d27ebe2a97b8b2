theorem tw_0 : (Jvm.Cond.selects "java/util/ArrayList" ({ cls := "java/util/ArrayList", name := "add", desc := "(Ljava/lang/Object;[Ljava/lang/Object;I)V" } : Jvm.MethodName) ({ cls := "java/util/ArrayList", name := "add", desc := "(Ljava/lang/Object;[Ljava/lang/Object;I)V" } : Jvm.MethodName)) ∈ tb := tb_mem 0 (by decide +kernel) rfl
theorem tw_1 : (Jvm.Cond.selects "java/util/ArrayList" ({ cls := "java/util/ArrayList", name := "grow", desc := "()[Ljava/lang/Object;" } : Jvm.MethodName) ({ cls := "java/util/ArrayList", name := "grow", desc := "()[Ljava/lang/Object;" } : Jvm.MethodName)) ∈ tb := tb_mem 1 (by decide +kernel) rfl
theorem tw_2 : (Jvm.Cond.selects "java/util/ArrayList" ({ cls := "java/util/ArrayList", name := "grow", desc := "(I)[Ljava/lang/Object;" } : Jvm.MethodName) ({ cls := "java/util/ArrayList", name := "grow", desc := "(I)[Ljava/lang/Object;" } : Jvm.MethodName)) ∈ tb := tb_mem 2 (by decide +kernel) rfl
theorem tw_3 : (Jvm.Cond.selects "java/util/ArrayList" ({ cls := "java/util/ArrayList", name := "fastRemove", desc := "([Ljava/lang/Object;I)V" } : Jvm.MethodName) ({ cls := "java/util/ArrayList", name := "fastRemove", desc := "([Ljava/lang/Object;I)V" } : Jvm.MethodName)) ∈ tb := tb_mem 3 (by decide +kernel) rfl
theorem tw_4 : (Jvm.Cond.selects "BallastTrain$State" ({ cls := "BallastTrain$State", name := "carryOutOrders", desc := "()V" } : Jvm.MethodName) ({ cls := "BallastTrain$State", name := "carryOutOrders", desc := "()V" } : Jvm.MethodName)) ∈ tb := tb_mem 4 (by decide +kernel) rfl
theorem tw_5 : (Jvm.Cond.selects "BallastTrain$State" ({ cls := "BallastTrain$State", name := "unload", desc := "()V" } : Jvm.MethodName) ({ cls := "BallastTrain$State", name := "unload", desc := "()V" } : Jvm.MethodName)) ∈ tb := tb_mem 5 (by decide +kernel) rfl
theorem tw_6 : (Jvm.Cond.selects "BallastTrain$State" ({ cls := "BallastTrain$State", name := "land", desc := "(III)V" } : Jvm.MethodName) ({ cls := "BallastTrain$State", name := "land", desc := "(III)V" } : Jvm.MethodName)) ∈ tb := tb_mem 6 (by decide +kernel) rfl
theorem tw_7 : (Jvm.Cond.initialized "BallastTrainLaw") ∈ tb := tb_mem 7 (by decide +kernel) rfl
theorem tw_8 : (Jvm.Cond.initialized "BallastTrain") ∈ tb := tb_mem 8 (by decide +kernel) rfl
theorem tw_9 : (Jvm.Cond.initialized "BallastTrain$Text") ∈ tb := tb_mem 9 (by decide +kernel) rfl
theorem tw_10 : (Jvm.Cond.initialized "java/util/AbstractCollection") ∈ tb := tb_mem 10 (by decide +kernel) rfl
theorem tw_11 : (Jvm.Cond.initialized "java/util/AbstractList") ∈ tb := tb_mem 11 (by decide +kernel) rfl
theorem tw_12 : (Jvm.Cond.initialized "java/util/ArrayList") ∈ tb := tb_mem 12 (by decide +kernel) rfl
theorem tw_13 : (Jvm.Cond.initialized "BallastTrain$State") ∈ tb := tb_mem 13 (by decide +kernel) rfl
theorem tw_14 : (Jvm.Cond.initialized "BallastTrain$Track") ∈ tb := tb_mem 14 (by decide +kernel) rfl
theorem tw_15 : (Jvm.Cond.initialized "BallastTrain$Train") ∈ tb := tb_mem 15 (by decide +kernel) rfl
theorem tw_16 : (Jvm.Cond.initialized "java/util/Arrays") ∈ tb := tb_mem 16 (by decide +kernel) rfl
theorem tw_17 : (Jvm.Cond.initialized "BallastTrain$History") ∈ tb := tb_mem 17 (by decide +kernel) rfl
theorem tw_18 : (Jvm.Cond.initialized "java/lang/Math") ∈ tb := tb_mem 18 (by decide +kernel) rfl
theorem tw_19 : (Jvm.Cond.initialized "java/lang/System") ∈ tb := tb_mem 19 (by decide +kernel) rfl
theorem tw_20 : (Jvm.Cond.initialized "java/util/Objects") ∈ tb := tb_mem 20 (by decide +kernel) rfl
theorem tw_21 : (Jvm.Cond.initialized "jdk/internal/util/Preconditions") ∈ tb := tb_mem 21 (by decide +kernel) rfl
theorem tw_22 : (Jvm.Cond.initialized "jdk/internal/util/ArraysSupport") ∈ tb := tb_mem 22 (by decide +kernel) rfl
theorem tw_23 : (Jvm.Cond.classLink "BallastTrainLaw" (34 : Nat) "BallastTrain") ∈ tb := tb_mem 23 (by decide +kernel) rfl
theorem tw_24 : (Jvm.Cond.instantiable "BallastTrain" (4 : Nat)) ∈ tb := tb_mem 24 (by decide +kernel) rfl
theorem tw_25 : (Jvm.Cond.methodLink "BallastTrainLaw" (82 : Nat) ({ cls := "BallastTrain", name := "<init>", desc := "()V" } : Jvm.MethodName)) ∈ tb := tb_mem 25 (by decide +kernel) rfl
theorem tw_26 : (Jvm.Cond.instanceMethod ({ cls := "BallastTrain", name := "<init>", desc := "()V" } : Jvm.MethodName)) ∈ tb := tb_mem 26 (by decide +kernel) rfl
theorem tw_27 : (Jvm.Cond.code ({ cls := "BallastTrain", name := "<init>", desc := "()V" } : Jvm.MethodName) prog_1_method_1_code (1 : Nat) (Option.none : Option Jvm.ClassFile.FieldType)) ∈ tb := tb_mem 27 (by decide +kernel) rfl
theorem tw_28 : (Jvm.Cond.methodLink "BallastTrain" (1 : Nat) ({ cls := "java/lang/Object", name := "<init>", desc := "()V" } : Jvm.MethodName)) ∈ tb := tb_mem 28 (by decide +kernel) rfl
theorem tw_29 : (Jvm.Cond.instanceMethod ({ cls := "java/lang/Object", name := "<init>", desc := "()V" } : Jvm.MethodName)) ∈ tb := tb_mem 29 (by decide +kernel) rfl
theorem tw_31 : (Jvm.Cond.classLink "BallastTrain" (7 : Nat) "BallastTrain$Text") ∈ tb := tb_mem 31 (by decide +kernel) rfl
theorem tw_32 : (Jvm.Cond.instantiable "BallastTrain$Text" (5 : Nat)) ∈ tb := tb_mem 32 (by decide +kernel) rfl
theorem tw_34 : (Jvm.Cond.instanceMethod ({ cls := "BallastTrain$Text", name := "<init>", desc := "()V" } : Jvm.MethodName)) ∈ tb := tb_mem 34 (by decide +kernel) rfl
theorem tw_35 : (Jvm.Cond.code ({ cls := "BallastTrain$Text", name := "<init>", desc := "()V" } : Jvm.MethodName) prog_5_method_1_code (1 : Nat) (Option.none : Option Jvm.ClassFile.FieldType)) ∈ tb := tb_mem 35 (by decide +kernel) rfl
theorem tw_36 : (Jvm.Cond.methodLink "BallastTrain$Text" (3 : Nat) ({ cls := "java/lang/Object", name := "<init>", desc := "()V" } : Jvm.MethodName)) ∈ tb := tb_mem 36 (by decide +kernel) rfl
theorem tw_37 : (Jvm.Cond.classLink "BallastTrain$Text" (19 : Nat) "java/util/ArrayList") ∈ tb := tb_mem 37 (by decide +kernel) rfl
theorem tw_38 : (Jvm.Cond.instantiable "java/util/ArrayList" (3 : Nat)) ∈ tb := tb_mem 38 (by decide +kernel) rfl
theorem tw_39 : (Jvm.Cond.methodLink "BallastTrain$Text" (21 : Nat) ({ cls := "java/util/ArrayList", name := "<init>", desc := "()V" } : Jvm.MethodName)) ∈ tb := tb_mem 39 (by decide +kernel) rfl
theorem tw_40 : (Jvm.Cond.instanceMethod ({ cls := "java/util/ArrayList", name := "<init>", desc := "()V" } : Jvm.MethodName)) ∈ tb := tb_mem 40 (by decide +kernel) rfl
theorem tw_41 : (Jvm.Cond.code ({ cls := "java/util/ArrayList", name := "<init>", desc := "()V" } : Jvm.MethodName) prog_17_method_2_code (1 : Nat) (Option.none : Option Jvm.ClassFile.FieldType)) ∈ tb := tb_mem 41 (by decide +kernel) rfl
theorem tw_42 : (Jvm.Cond.methodLink "java/util/ArrayList" (1 : Nat) ({ cls := "java/util/AbstractList", name := "<init>", desc := "()V" } : Jvm.MethodName)) ∈ tb := tb_mem 42 (by decide +kernel) rfl
theorem tw_43 : (Jvm.Cond.instanceMethod ({ cls := "java/util/AbstractList", name := "<init>", desc := "()V" } : Jvm.MethodName)) ∈ tb := tb_mem 43 (by decide +kernel) rfl
theorem tw_44 : (Jvm.Cond.code ({ cls := "java/util/AbstractList", name := "<init>", desc := "()V" } : Jvm.MethodName) prog_16_method_1_code (1 : Nat) (Option.none : Option Jvm.ClassFile.FieldType)) ∈ tb := tb_mem 44 (by decide +kernel) rfl
theorem tw_45 : (Jvm.Cond.methodLink "java/util/AbstractList" (1 : Nat) ({ cls := "java/util/AbstractCollection", name := "<init>", desc := "()V" } : Jvm.MethodName)) ∈ tb := tb_mem 45 (by decide +kernel) rfl
theorem tw_46 : (Jvm.Cond.instanceMethod ({ cls := "java/util/AbstractCollection", name := "<init>", desc := "()V" } : Jvm.MethodName)) ∈ tb := tb_mem 46 (by decide +kernel) rfl
theorem tw_47 : (Jvm.Cond.code ({ cls := "java/util/AbstractCollection", name := "<init>", desc := "()V" } : Jvm.MethodName) prog_15_method_1_code (1 : Nat) (Option.none : Option Jvm.ClassFile.FieldType)) ∈ tb := tb_mem 47 (by decide +kernel) rfl
theorem tw_48 : (Jvm.Cond.methodLink "java/util/AbstractCollection" (1 : Nat) ({ cls := "java/lang/Object", name := "<init>", desc := "()V" } : Jvm.MethodName)) ∈ tb := tb_mem 48 (by decide +kernel) rfl
theorem tw_49 : (Jvm.Cond.fieldLink "java/util/ArrayList" (39 : Nat) "java/util/ArrayList" "DEFAULTCAPACITY_EMPTY_ELEMENTDATA" "[Ljava/lang/Object;") ∈ tb := tb_mem 49 (by decide +kernel) rfl
theorem tw_51 : (Jvm.Cond.fieldLink "java/util/ArrayList" (9 : Nat) "java/util/ArrayList" "elementData" "[Ljava/lang/Object;") ∈ tb := tb_mem 51 (by decide +kernel) rfl
theorem tw_52 : (Jvm.Cond.fieldLink "java/util/ArrayList" (48 : Nat) "java/util/ArrayList" "size" "I") ∈ tb := tb_mem 52 (by decide +kernel) rfl
theorem tw_53 : (Jvm.Cond.fieldLink "java/util/AbstractList" (7 : Nat) "java/util/AbstractList" "modCount" "I") ∈ tb := tb_mem 53 (by decide +kernel) rfl
theorem tw_54 : (Jvm.Cond.fieldLink "java/util/ArrayList" (63 : Nat) "java/util/ArrayList" "modCount" "I") ∈ tb := tb_mem 54 (by decide +kernel) rfl
theorem tw_55 : (Jvm.Cond.sameField "java/util/ArrayList" "java/util/AbstractList" "modCount" "I") ∈ tb := tb_mem 55 (by decide +kernel) rfl
theorem tw_64 : (Jvm.Cond.fieldLink "BallastTrain$Text" (9 : Nat) "BallastTrain$Text" "bytes" "[I") ∈ tb := tb_mem 64 (by decide +kernel) rfl
theorem tw_65 : (Jvm.Cond.fieldLink "BallastTrain$Text" (15 : Nat) "BallastTrain$Text" "length" "I") ∈ tb := tb_mem 65 (by decide +kernel) rfl
theorem tw_66 : (Jvm.Cond.fieldLink "BallastTrain" (41 : Nat) "BallastTrain$Text" "length" "I") ∈ tb := tb_mem 66 (by decide +kernel) rfl
theorem tw_67 : (Jvm.Cond.fieldLink "BallastTrain$Text" (22 : Nat) "BallastTrain$Text" "orders" "Ljava/util/ArrayList;") ∈ tb := tb_mem 67 (by decide +kernel) rfl
theorem tw_68 : (Jvm.Cond.fieldLink "BallastTrain$Text" (26 : Nat) "BallastTrain$Text" "fault" "I") ∈ tb := tb_mem 68 (by decide +kernel) rfl
theorem tw_69 : (Jvm.Cond.fieldLink "BallastTrain$Text" (29 : Nat) "BallastTrain$Text" "at" "I") ∈ tb := tb_mem 69 (by decide +kernel) rfl
theorem tw_81 : (Jvm.Cond.classLink "BallastTrain" (16 : Nat) "BallastTrain$State") ∈ tb := tb_mem 81 (by decide +kernel) rfl
theorem tw_82 : (Jvm.Cond.instantiable "BallastTrain$State" (9 : Nat)) ∈ tb := tb_mem 82 (by decide +kernel) rfl
theorem tw_84 : (Jvm.Cond.instanceMethod ({ cls := "BallastTrain$State", name := "<init>", desc := "()V" } : Jvm.MethodName)) ∈ tb := tb_mem 84 (by decide +kernel) rfl
theorem tw_85 : (Jvm.Cond.code ({ cls := "BallastTrain$State", name := "<init>", desc := "()V" } : Jvm.MethodName) prog_4_method_1_code (1 : Nat) (Option.none : Option Jvm.ClassFile.FieldType)) ∈ tb := tb_mem 85 (by decide +kernel) rfl
theorem tw_86 : (Jvm.Cond.methodLink "BallastTrain$State" (3 : Nat) ({ cls := "java/lang/Object", name := "<init>", desc := "()V" } : Jvm.MethodName)) ∈ tb := tb_mem 86 (by decide +kernel) rfl
theorem tw_87 : (Jvm.Cond.classLink "BallastTrain$State" (15 : Nat) "BallastTrain$Track") ∈ tb := tb_mem 87 (by decide +kernel) rfl
theorem tw_88 : (Jvm.Cond.instantiable "BallastTrain$Track" (1 : Nat)) ∈ tb := tb_mem 88 (by decide +kernel) rfl
theorem tw_90 : (Jvm.Cond.instanceMethod ({ cls := "BallastTrain$Track", name := "<init>", desc := "()V" } : Jvm.MethodName)) ∈ tb := tb_mem 90 (by decide +kernel) rfl
theorem tw_91 : (Jvm.Cond.code ({ cls := "BallastTrain$Track", name := "<init>", desc := "()V" } : Jvm.MethodName) prog_6_method_1_code (1 : Nat) (Option.none : Option Jvm.ClassFile.FieldType)) ∈ tb := tb_mem 91 (by decide +kernel) rfl
theorem tw_92 : (Jvm.Cond.methodLink "BallastTrain$Track" (3 : Nat) ({ cls := "java/lang/Object", name := "<init>", desc := "()V" } : Jvm.MethodName)) ∈ tb := tb_mem 92 (by decide +kernel) rfl
theorem tw_93 : (Jvm.Cond.fieldLink "BallastTrain$Track" (9 : Nat) "BallastTrain$Track" "heights" "[I") ∈ tb := tb_mem 93 (by decide +kernel) rfl
theorem tw_94 : (Jvm.Cond.fieldLink "BallastTrain$State" (56 : Nat) "BallastTrain$Track" "heights" "[I") ∈ tb := tb_mem 94 (by decide +kernel) rfl
theorem tw_98 : (Jvm.Cond.classLink "BallastTrain$State" (22 : Nat) "BallastTrain$Train") ∈ tb := tb_mem 98 (by decide +kernel) rfl
theorem tw_99 : (Jvm.Cond.instantiable "BallastTrain$Train" (8 : Nat)) ∈ tb := tb_mem 99 (by decide +kernel) rfl
theorem tw_100 : (Jvm.Cond.methodLink "BallastTrain$State" (24 : Nat) ({ cls := "BallastTrain$Train", name := "<init>", desc := "()V" } : Jvm.MethodName)) ∈ tb := tb_mem 100 (by decide +kernel) rfl
theorem tw_101 : (Jvm.Cond.instanceMethod ({ cls := "BallastTrain$Train", name := "<init>", desc := "()V" } : Jvm.MethodName)) ∈ tb := tb_mem 101 (by decide +kernel) rfl
theorem tw_102 : (Jvm.Cond.code ({ cls := "BallastTrain$Train", name := "<init>", desc := "()V" } : Jvm.MethodName) prog_7_method_1_code (1 : Nat) (Option.none : Option Jvm.ClassFile.FieldType)) ∈ tb := tb_mem 102 (by decide +kernel) rfl
theorem tw_103 : (Jvm.Cond.methodLink "BallastTrain$Train" (3 : Nat) ({ cls := "java/lang/Object", name := "<init>", desc := "()V" } : Jvm.MethodName)) ∈ tb := tb_mem 103 (by decide +kernel) rfl
theorem tw_104 : (Jvm.Cond.methodLink "BallastTrain$Train" (37 : Nat) ({ cls := "java/util/Arrays", name := "fill", desc := "([II)V" } : Jvm.MethodName)) ∈ tb := tb_mem 104 (by decide +kernel) rfl
theorem tw_105 : (Jvm.Cond.static ({ cls := "java/util/Arrays", name := "fill", desc := "([II)V" } : Jvm.MethodName)) ∈ tb := tb_mem 105 (by decide +kernel) rfl
theorem tw_106 : (Jvm.Cond.code ({ cls := "java/util/Arrays", name := "fill", desc := "([II)V" } : Jvm.MethodName) prog_18_method_103_code (4 : Nat) (Option.none : Option Jvm.ClassFile.FieldType)) ∈ tb := tb_mem 106 (by decide +kernel) rfl
theorem tw_107 : (Jvm.Cond.fieldLink "BallastTrain$Train" (9 : Nat) "BallastTrain$Train" "wagons" "I") ∈ tb := tb_mem 107 (by decide +kernel) rfl
theorem tw_108 : (Jvm.Cond.fieldLink "BallastTrain$State" (90 : Nat) "BallastTrain$Train" "wagons" "I") ∈ tb := tb_mem 108 (by decide +kernel) rfl
theorem tw_109 : (Jvm.Cond.fieldLink "BallastTrain" (223 : Nat) "BallastTrain$Train" "wagons" "I") ∈ tb := tb_mem 109 (by decide +kernel) rfl
theorem tw_110 : (Jvm.Cond.fieldLink "BallastTrain$Train" (15 : Nat) "BallastTrain$Train" "place" "I") ∈ tb := tb_mem 110 (by decide +kernel) rfl
theorem tw_111 : (Jvm.Cond.fieldLink "BallastTrain$Order" (27 : Nat) "BallastTrain$Train" "place" "I") ∈ tb := tb_mem 111 (by decide +kernel) rfl
theorem tw_112 : (Jvm.Cond.fieldLink "BallastTrain" (136 : Nat) "BallastTrain$Train" "place" "I") ∈ tb := tb_mem 112 (by decide +kernel) rfl
theorem tw_113 : (Jvm.Cond.fieldLink "BallastTrain$Train" (18 : Nat) "BallastTrain$Train" "speed" "I") ∈ tb := tb_mem 113 (by decide +kernel) rfl
theorem tw_114 : (Jvm.Cond.fieldLink "BallastTrain" (85 : Nat) "BallastTrain$Train" "speed" "I") ∈ tb := tb_mem 114 (by decide +kernel) rfl
theorem tw_115 : (Jvm.Cond.fieldLink "BallastTrain$Train" (21 : Nat) "BallastTrain$Train" "wish" "I") ∈ tb := tb_mem 115 (by decide +kernel) rfl
theorem tw_116 : (Jvm.Cond.fieldLink "BallastTrain$Order" (40 : Nat) "BallastTrain$Train" "wish" "I") ∈ tb := tb_mem 116 (by decide +kernel) rfl
theorem tw_117 : (Jvm.Cond.fieldLink "BallastTrain" (109 : Nat) "BallastTrain$Train" "wish" "I") ∈ tb := tb_mem 117 (by decide +kernel) rfl
theorem tw_118 : (Jvm.Cond.fieldLink "BallastTrain$Train" (24 : Nat) "BallastTrain$Train" "load" "[I") ∈ tb := tb_mem 118 (by decide +kernel) rfl
theorem tw_119 : (Jvm.Cond.fieldLink "BallastTrain" (88 : Nat) "BallastTrain$Train" "load" "[I") ∈ tb := tb_mem 119 (by decide +kernel) rfl
theorem tw_120 : (Jvm.Cond.fieldLink "BallastTrain$Train" (28 : Nat) "BallastTrain$Train" "left" "[I") ∈ tb := tb_mem 120 (by decide +kernel) rfl
theorem tw_121 : (Jvm.Cond.fieldLink "BallastTrain" (174 : Nat) "BallastTrain$Train" "left" "[I") ∈ tb := tb_mem 121 (by decide +kernel) rfl
theorem tw_122 : (Jvm.Cond.fieldLink "BallastTrain$Train" (31 : Nat) "BallastTrain$Train" "level" "[I") ∈ tb := tb_mem 122 (by decide +kernel) rfl
theorem tw_123 : (Jvm.Cond.fieldLink "BallastTrain$Train" (34 : Nat) "BallastTrain$Train" "rest" "[I") ∈ tb := tb_mem 123 (by decide +kernel) rfl
theorem tw_141 : (Jvm.Cond.classLink "BallastTrain$State" (29 : Nat) "java/util/ArrayList") ∈ tb := tb_mem 141 (by decide +kernel) rfl
theorem tw_142 : (Jvm.Cond.methodLink "BallastTrain$State" (31 : Nat) ({ cls := "java/util/ArrayList", name := "<init>", desc := "()V" } : Jvm.MethodName)) ∈ tb := tb_mem 142 (by decide +kernel) rfl
theorem tw_143 : (Jvm.Cond.fieldLink "BallastTrain$State" (9 : Nat) "BallastTrain$State" "settings" "[I") ∈ tb := tb_mem 143 (by decide +kernel) rfl
theorem tw_144 : (Jvm.Cond.fieldLink "BallastTrain" (62 : Nat) "BallastTrain$State" "settings" "[I") ∈ tb := tb_mem 144 (by decide +kernel) rfl
theorem tw_145 : (Jvm.Cond.fieldLink "BallastTrain$State" (18 : Nat) "BallastTrain$State" "track" "LBallastTrain$Track;") ∈ tb := tb_mem 145 (by decide +kernel) rfl
theorem tw_146 : (Jvm.Cond.fieldLink "BallastTrain" (144 : Nat) "BallastTrain$State" "track" "LBallastTrain$Track;") ∈ tb := tb_mem 146 (by decide +kernel) rfl
theorem tw_147 : (Jvm.Cond.fieldLink "BallastTrain$State" (25 : Nat) "BallastTrain$State" "train" "LBallastTrain$Train;") ∈ tb := tb_mem 147 (by decide +kernel) rfl
theorem tw_148 : (Jvm.Cond.fieldLink "BallastTrain" (65 : Nat) "BallastTrain$State" "train" "LBallastTrain$Train;") ∈ tb := tb_mem 148 (by decide +kernel) rfl
theorem tw_149 : (Jvm.Cond.fieldLink "BallastTrain$State" (32 : Nat) "BallastTrain$State" "orders" "Ljava/util/ArrayList;") ∈ tb := tb_mem 149 (by decide +kernel) rfl
theorem tw_150 : (Jvm.Cond.fieldLink "BallastTrain" (112 : Nat) "BallastTrain$State" "orders" "Ljava/util/ArrayList;") ∈ tb := tb_mem 150 (by decide +kernel) rfl
theorem tw_151 : (Jvm.Cond.fieldLink "BallastTrain$State" (36 : Nat) "BallastTrain$State" "time" "I") ∈ tb := tb_mem 151 (by decide +kernel) rfl
theorem tw_152 : (Jvm.Cond.fieldLink "BallastTrain" (130 : Nat) "BallastTrain$State" "time" "I") ∈ tb := tb_mem 152 (by decide +kernel) rfl
theorem tw_153 : (Jvm.Cond.fieldLink "BallastTrain$State" (40 : Nat) "BallastTrain$State" "jams" "I") ∈ tb := tb_mem 153 (by decide +kernel) rfl
theorem tw_154 : (Jvm.Cond.fieldLink "BallastTrain" (226 : Nat) "BallastTrain$State" "jams" "I") ∈ tb := tb_mem 154 (by decide +kernel) rfl
theorem tw_155 : (Jvm.Cond.fieldLink "BallastTrain$State" (43 : Nat) "BallastTrain$State" "loaded" "I") ∈ tb := tb_mem 155 (by decide +kernel) rfl
theorem tw_156 : (Jvm.Cond.fieldLink "BallastTrain" (91 : Nat) "BallastTrain$State" "loaded" "I") ∈ tb := tb_mem 156 (by decide +kernel) rfl
theorem tw_157 : (Jvm.Cond.fieldLink "BallastTrain$State" (46 : Nat) "BallastTrain$State" "lost" "I") ∈ tb := tb_mem 157 (by decide +kernel) rfl
theorem tw_158 : (Jvm.Cond.fieldLink "BallastTrain" (230 : Nat) "BallastTrain$State" "lost" "I") ∈ tb := tb_mem 158 (by decide +kernel) rfl
theorem tw_159 : (Jvm.Cond.fieldLink "BallastTrain$State" (49 : Nat) "BallastTrain$State" "taken" "I") ∈ tb := tb_mem 159 (by decide +kernel) rfl
theorem tw_160 : (Jvm.Cond.fieldLink "BallastTrain" (79 : Nat) "BallastTrain$State" "taken" "I") ∈ tb := tb_mem 160 (by decide +kernel) rfl
theorem tw_180 : (Jvm.Cond.classLink "BallastTrain" (26 : Nat) "BallastTrain$History") ∈ tb := tb_mem 180 (by decide +kernel) rfl
theorem tw_181 : (Jvm.Cond.instantiable "BallastTrain$History" (3 : Nat)) ∈ tb := tb_mem 181 (by decide +kernel) rfl
theorem tw_182 : (Jvm.Cond.methodLink "BallastTrain" (28 : Nat) ({ cls := "BallastTrain$History", name := "<init>", desc := "()V" } : Jvm.MethodName)) ∈ tb := tb_mem 182 (by decide +kernel) rfl
theorem tw_183 : (Jvm.Cond.instanceMethod ({ cls := "BallastTrain$History", name := "<init>", desc := "()V" } : Jvm.MethodName)) ∈ tb := tb_mem 183 (by decide +kernel) rfl
theorem tw_184 : (Jvm.Cond.code ({ cls := "BallastTrain$History", name := "<init>", desc := "()V" } : Jvm.MethodName) prog_2_method_1_code (2 : Nat) (Option.none : Option Jvm.ClassFile.FieldType)) ∈ tb := tb_mem 184 (by decide +kernel) rfl
theorem tw_185 : (Jvm.Cond.methodLink "BallastTrain$History" (3 : Nat) ({ cls := "java/lang/Object", name := "<init>", desc := "()V" } : Jvm.MethodName)) ∈ tb := tb_mem 185 (by decide +kernel) rfl
theorem tw_186 : (Jvm.Cond.classLink "BallastTrain$History" (9 : Nat) "BallastTrain$State") ∈ tb := tb_mem 186 (by decide +kernel) rfl
theorem tw_189 : (Jvm.Cond.fieldLink "BallastTrain$History" (11 : Nat) "BallastTrain$History" "states" "[LBallastTrain$State;") ∈ tb := tb_mem 189 (by decide +kernel) rfl
theorem tw_190 : (Jvm.Cond.fieldLink "BallastTrain$History" (17 : Nat) "BallastTrain$History" "next" "I") ∈ tb := tb_mem 190 (by decide +kernel) rfl
theorem tw_191 : (Jvm.Cond.fieldLink "BallastTrain$History" (21 : Nat) "BallastTrain$History" "size" "I") ∈ tb := tb_mem 191 (by decide +kernel) rfl
theorem tw_192 : (Jvm.Cond.fieldLink "BallastTrain" (159 : Nat) "BallastTrain$History" "size" "I") ∈ tb := tb_mem 192 (by decide +kernel) rfl
theorem tw_200 : (Jvm.Cond.fieldLink "BallastTrain" (10 : Nat) "BallastTrain" "text" "LBallastTrain$Text;") ∈ tb := tb_mem 200 (by decide +kernel) rfl
theorem tw_201 : (Jvm.Cond.fieldLink "BallastTrain" (19 : Nat) "BallastTrain" "now" "LBallastTrain$State;") ∈ tb := tb_mem 201 (by decide +kernel) rfl
theorem tw_202 : (Jvm.Cond.fieldLink "BallastTrain" (23 : Nat) "BallastTrain" "ahead" "LBallastTrain$State;") ∈ tb := tb_mem 202 (by decide +kernel) rfl
theorem tw_203 : (Jvm.Cond.fieldLink "BallastTrain" (29 : Nat) "BallastTrain" "history" "LBallastTrain$History;") ∈ tb := tb_mem 203 (by decide +kernel) rfl
theorem tw_213 : (Jvm.Cond.methodLink "BallastTrainLaw" (39 : Nat) ({ cls := "BallastTrain", name := "load", desc := "(II)I" } : Jvm.MethodName)) ∈ tb := tb_mem 213 (by decide +kernel) rfl
theorem tw_214 : (Jvm.Cond.instanceMethod ({ cls := "BallastTrain", name := "load", desc := "(II)I" } : Jvm.MethodName)) ∈ tb := tb_mem 214 (by decide +kernel) rfl
theorem tw_215 : (Jvm.Cond.selects "BallastTrain" ({ cls := "BallastTrain", name := "load", desc := "(II)I" } : Jvm.MethodName) ({ cls := "BallastTrain", name := "load", desc := "(II)I" } : Jvm.MethodName)) ∈ tb := tb_mem 215 (by decide +kernel) rfl
theorem tw_216 : (Jvm.Cond.code ({ cls := "BallastTrain", name := "load", desc := "(II)I" } : Jvm.MethodName) prog_1_method_7_code (3 : Nat) (Option.some Jvm.ClassFile.FieldType.int)) ∈ tb := tb_mem 216 (by decide +kernel) rfl
theorem tw_217 : (Jvm.Cond.methodLink "BallastTrain" (82 : Nat) ({ cls := "BallastTrain$Train", name := "hasWagon", desc := "(I)Z" } : Jvm.MethodName)) ∈ tb := tb_mem 217 (by decide +kernel) rfl
theorem tw_218 : (Jvm.Cond.instanceMethod ({ cls := "BallastTrain$Train", name := "hasWagon", desc := "(I)Z" } : Jvm.MethodName)) ∈ tb := tb_mem 218 (by decide +kernel) rfl
theorem tw_219 : (Jvm.Cond.selects "BallastTrain$Train" ({ cls := "BallastTrain$Train", name := "hasWagon", desc := "(I)Z" } : Jvm.MethodName) ({ cls := "BallastTrain$Train", name := "hasWagon", desc := "(I)Z" } : Jvm.MethodName)) ∈ tb := tb_mem 219 (by decide +kernel) rfl
theorem tw_220 : (Jvm.Cond.code ({ cls := "BallastTrain$Train", name := "hasWagon", desc := "(I)Z" } : Jvm.MethodName) prog_7_method_4_code (2 : Nat) (Option.some Jvm.ClassFile.FieldType.boolean)) ∈ tb := tb_mem 220 (by decide +kernel) rfl
theorem tw_221 : (Jvm.Cond.methodLink "BallastTrain" (33 : Nat) ({ cls := "BallastTrain", name := "isWithin", desc := "(III)Z" } : Jvm.MethodName)) ∈ tb := tb_mem 221 (by decide +kernel) rfl
theorem tw_222 : (Jvm.Cond.static ({ cls := "BallastTrain", name := "isWithin", desc := "(III)Z" } : Jvm.MethodName)) ∈ tb := tb_mem 222 (by decide +kernel) rfl
theorem tw_223 : (Jvm.Cond.code ({ cls := "BallastTrain", name := "isWithin", desc := "(III)Z" } : Jvm.MethodName) prog_1_method_31_code (3 : Nat) (Option.some Jvm.ClassFile.FieldType.boolean)) ∈ tb := tb_mem 223 (by decide +kernel) rfl
theorem tw_224 : (Jvm.Cond.methodLink "BallastTrain" (58 : Nat) ({ cls := "BallastTrain$History", name := "keep", desc := "(LBallastTrain$State;)V" } : Jvm.MethodName)) ∈ tb := tb_mem 224 (by decide +kernel) rfl
theorem tw_225 : (Jvm.Cond.instanceMethod ({ cls := "BallastTrain$History", name := "keep", desc := "(LBallastTrain$State;)V" } : Jvm.MethodName)) ∈ tb := tb_mem 225 (by decide +kernel) rfl
theorem tw_226 : (Jvm.Cond.selects "BallastTrain$History" ({ cls := "BallastTrain$History", name := "keep", desc := "(LBallastTrain$State;)V" } : Jvm.MethodName) ({ cls := "BallastTrain$History", name := "keep", desc := "(LBallastTrain$State;)V" } : Jvm.MethodName)) ∈ tb := tb_mem 226 (by decide +kernel) rfl
theorem tw_227 : (Jvm.Cond.code ({ cls := "BallastTrain$History", name := "keep", desc := "(LBallastTrain$State;)V" } : Jvm.MethodName) prog_2_method_2_code (2 : Nat) (Option.none : Option Jvm.ClassFile.FieldType)) ∈ tb := tb_mem 227 (by decide +kernel) rfl
theorem tw_228 : (Jvm.Cond.methodLink "BallastTrain$History" (25 : Nat) ({ cls := "java/lang/Math", name := "floorMod", desc := "(II)I" } : Jvm.MethodName)) ∈ tb := tb_mem 228 (by decide +kernel) rfl
theorem tw_229 : (Jvm.Cond.static ({ cls := "java/lang/Math", name := "floorMod", desc := "(II)I" } : Jvm.MethodName)) ∈ tb := tb_mem 229 (by decide +kernel) rfl
theorem tw_230 : (Jvm.Cond.code ({ cls := "java/lang/Math", name := "floorMod", desc := "(II)I" } : Jvm.MethodName) prog_13_method_50_code (3 : Nat) (Option.some Jvm.ClassFile.FieldType.int)) ∈ tb := tb_mem 230 (by decide +kernel) rfl
theorem tw_231 : (Jvm.Cond.methodLink "BallastTrain$History" (31 : Nat) ({ cls := "BallastTrain$State", name := "copyFrom", desc := "(LBallastTrain$State;)V" } : Jvm.MethodName)) ∈ tb := tb_mem 231 (by decide +kernel) rfl
theorem tw_232 : (Jvm.Cond.instanceMethod ({ cls := "BallastTrain$State", name := "copyFrom", desc := "(LBallastTrain$State;)V" } : Jvm.MethodName)) ∈ tb := tb_mem 232 (by decide +kernel) rfl
theorem tw_233 : (Jvm.Cond.selects "BallastTrain$State" ({ cls := "BallastTrain$State", name := "copyFrom", desc := "(LBallastTrain$State;)V" } : Jvm.MethodName) ({ cls := "BallastTrain$State", name := "copyFrom", desc := "(LBallastTrain$State;)V" } : Jvm.MethodName)) ∈ tb := tb_mem 233 (by decide +kernel) rfl
theorem tw_234 : (Jvm.Cond.code ({ cls := "BallastTrain$State", name := "copyFrom", desc := "(LBallastTrain$State;)V" } : Jvm.MethodName) prog_4_method_2_code (2 : Nat) (Option.none : Option Jvm.ClassFile.FieldType)) ∈ tb := tb_mem 234 (by decide +kernel) rfl
theorem tw_236 : (Jvm.Cond.static ({ cls := "BallastTrain", name := "copyRow", desc := "([I[I)V" } : Jvm.MethodName)) ∈ tb := tb_mem 236 (by decide +kernel) rfl
theorem tw_237 : (Jvm.Cond.code ({ cls := "BallastTrain", name := "copyRow", desc := "([I[I)V" } : Jvm.MethodName) prog_1_method_33_code (2 : Nat) (Option.none : Option Jvm.ClassFile.FieldType)) ∈ tb := tb_mem 237 (by decide +kernel) rfl
theorem tw_238 : (Jvm.Cond.methodLink "BallastTrain" (151 : Nat) ({ cls := "java/lang/Math", name := "min", desc := "(II)I" } : Jvm.MethodName)) ∈ tb := tb_mem 238 (by decide +kernel) rfl
theorem tw_239 : (Jvm.Cond.static ({ cls := "java/lang/Math", name := "min", desc := "(II)I" } : Jvm.MethodName)) ∈ tb := tb_mem 239 (by decide +kernel) rfl
theorem tw_241 : (Jvm.Cond.methodLink "BallastTrain" (279 : Nat) ({ cls := "java/lang/System", name := "arraycopy", desc := "(Ljava/lang/Object;ILjava/lang/Object;II)V" } : Jvm.MethodName)) ∈ tb := tb_mem 241 (by decide +kernel) rfl
theorem tw_242 : (Jvm.Cond.static ({ cls := "java/lang/System", name := "arraycopy", desc := "(Ljava/lang/Object;ILjava/lang/Object;II)V" } : Jvm.MethodName)) ∈ tb := tb_mem 242 (by decide +kernel) rfl
theorem tw_243 : (Jvm.Cond.native ({ cls := "java/lang/System", name := "arraycopy", desc := "(Ljava/lang/Object;ILjava/lang/Object;II)V" } : Jvm.MethodName)) ∈ tb := tb_mem 243 (by decide +kernel) rfl
theorem tw_244 : (Jvm.Cond.methodLink "BallastTrain$State" (59 : Nat) ({ cls := "BallastTrain$Train", name := "copyFrom", desc := "(LBallastTrain$Train;)V" } : Jvm.MethodName)) ∈ tb := tb_mem 244 (by decide +kernel) rfl
theorem tw_245 : (Jvm.Cond.instanceMethod ({ cls := "BallastTrain$Train", name := "copyFrom", desc := "(LBallastTrain$Train;)V" } : Jvm.MethodName)) ∈ tb := tb_mem 245 (by decide +kernel) rfl
theorem tw_246 : (Jvm.Cond.selects "BallastTrain$Train" ({ cls := "BallastTrain$Train", name := "copyFrom", desc := "(LBallastTrain$Train;)V" } : Jvm.MethodName) ({ cls := "BallastTrain$Train", name := "copyFrom", desc := "(LBallastTrain$Train;)V" } : Jvm.MethodName)) ∈ tb := tb_mem 246 (by decide +kernel) rfl
theorem tw_247 : (Jvm.Cond.code ({ cls := "BallastTrain$Train", name := "copyFrom", desc := "(LBallastTrain$Train;)V" } : Jvm.MethodName) prog_7_method_3_code (2 : Nat) (Option.none : Option Jvm.ClassFile.FieldType)) ∈ tb := tb_mem 247 (by decide +kernel) rfl
theorem tw_249 : (Jvm.Cond.methodLink "BallastTrain$State" (63 : Nat) ({ cls := "java/util/ArrayList", name := "clear", desc := "()V" } : Jvm.MethodName)) ∈ tb := tb_mem 249 (by decide +kernel) rfl
theorem tw_250 : (Jvm.Cond.instanceMethod ({ cls := "java/util/ArrayList", name := "clear", desc := "()V" } : Jvm.MethodName)) ∈ tb := tb_mem 250 (by decide +kernel) rfl
theorem tw_251 : (Jvm.Cond.selects "java/util/ArrayList" ({ cls := "java/util/ArrayList", name := "clear", desc := "()V" } : Jvm.MethodName) ({ cls := "java/util/ArrayList", name := "clear", desc := "()V" } : Jvm.MethodName)) ∈ tb := tb_mem 251 (by decide +kernel) rfl
theorem tw_252 : (Jvm.Cond.code ({ cls := "java/util/ArrayList", name := "clear", desc := "()V" } : Jvm.MethodName) prog_17_method_40_code (4 : Nat) (Option.none : Option Jvm.ClassFile.FieldType)) ∈ tb := tb_mem 252 (by decide +kernel) rfl
theorem tw_254 : (Jvm.Cond.static ({ cls := "BallastTrain", name := "addAll", desc := "(Ljava/util/ArrayList;Ljava/util/ArrayList;)V" } : Jvm.MethodName)) ∈ tb := tb_mem 254 (by decide +kernel) rfl
theorem tw_255 : (Jvm.Cond.code ({ cls := "BallastTrain", name := "addAll", desc := "(Ljava/util/ArrayList;Ljava/util/ArrayList;)V" } : Jvm.MethodName) prog_1_method_34_code (3 : Nat) (Option.none : Option Jvm.ClassFile.FieldType)) ∈ tb := tb_mem 255 (by decide +kernel) rfl
theorem tw_256 : (Jvm.Cond.methodLink "BallastTrain" (116 : Nat) ({ cls := "java/util/ArrayList", name := "size", desc := "()I" } : Jvm.MethodName)) ∈ tb := tb_mem 256 (by decide +kernel) rfl
theorem tw_257 : (Jvm.Cond.instanceMethod ({ cls := "java/util/ArrayList", name := "size", desc := "()I" } : Jvm.MethodName)) ∈ tb := tb_mem 257 (by decide +kernel) rfl
theorem tw_258 : (Jvm.Cond.selects "java/util/ArrayList" ({ cls := "java/util/ArrayList", name := "size", desc := "()I" } : Jvm.MethodName) ({ cls := "java/util/ArrayList", name := "size", desc := "()I" } : Jvm.MethodName)) ∈ tb := tb_mem 258 (by decide +kernel) rfl
theorem tw_259 : (Jvm.Cond.code ({ cls := "java/util/ArrayList", name := "size", desc := "()I" } : Jvm.MethodName) prog_17_method_8_code (1 : Nat) (Option.some Jvm.ClassFile.FieldType.int)) ∈ tb := tb_mem 259 (by decide +kernel) rfl
theorem tw_260 : (Jvm.Cond.methodLink "BallastTrain" (203 : Nat) ({ cls := "java/util/ArrayList", name := "get", desc := "(I)Ljava/lang/Object;" } : Jvm.MethodName)) ∈ tb := tb_mem 260 (by decide +kernel) rfl
theorem tw_261 : (Jvm.Cond.instanceMethod ({ cls := "java/util/ArrayList", name := "get", desc := "(I)Ljava/lang/Object;" } : Jvm.MethodName)) ∈ tb := tb_mem 261 (by decide +kernel) rfl
theorem tw_262 : (Jvm.Cond.selects "java/util/ArrayList" ({ cls := "java/util/ArrayList", name := "get", desc := "(I)Ljava/lang/Object;" } : Jvm.MethodName) ({ cls := "java/util/ArrayList", name := "get", desc := "(I)Ljava/lang/Object;" } : Jvm.MethodName)) ∈ tb := tb_mem 262 (by decide +kernel) rfl
theorem tw_263 : (Jvm.Cond.code ({ cls := "java/util/ArrayList", name := "get", desc := "(I)Ljava/lang/Object;" } : Jvm.MethodName) prog_17_method_20_code (2 : Nat) (Option.some (Jvm.ClassFile.FieldType.object "java/lang/Object"))) ∈ tb := tb_mem 263 (by decide +kernel) rfl
theorem tw_264 : (Jvm.Cond.methodLink "java/util/ArrayList" (118 : Nat) ({ cls := "java/util/Objects", name := "checkIndex", desc := "(II)I" } : Jvm.MethodName)) ∈ tb := tb_mem 264 (by decide +kernel) rfl
theorem tw_265 : (Jvm.Cond.static ({ cls := "java/util/Objects", name := "checkIndex", desc := "(II)I" } : Jvm.MethodName)) ∈ tb := tb_mem 265 (by decide +kernel) rfl
theorem tw_266 : (Jvm.Cond.code ({ cls := "java/util/Objects", name := "checkIndex", desc := "(II)I" } : Jvm.MethodName) prog_21_method_17_code (2 : Nat) (Option.some Jvm.ClassFile.FieldType.int)) ∈ tb := tb_mem 266 (by decide +kernel) rfl
theorem tw_267 : (Jvm.Cond.methodLink "java/util/Objects" (105 : Nat) ({ cls := "jdk/internal/util/Preconditions", name := "checkIndex", desc := "(IILjava/util/function/BiFunction;)I" } : Jvm.MethodName)) ∈ tb := tb_mem 267 (by decide +kernel) rfl
theorem tw_268 : (Jvm.Cond.static ({ cls := "jdk/internal/util/Preconditions", name := "checkIndex", desc := "(IILjava/util/function/BiFunction;)I" } : Jvm.MethodName)) ∈ tb := tb_mem 268 (by decide +kernel) rfl
theorem tw_269 : (Jvm.Cond.code ({ cls := "jdk/internal/util/Preconditions", name := "checkIndex", desc := "(IILjava/util/function/BiFunction;)I" } : Jvm.MethodName) prog_25_method_11_code (3 : Nat) (Option.some Jvm.ClassFile.FieldType.int)) ∈ tb := tb_mem 269 (by decide +kernel) rfl
theorem tw_270 : (Jvm.Cond.methodLink "java/util/ArrayList" (123 : Nat) ({ cls := "java/util/ArrayList", name := "elementData", desc := "(I)Ljava/lang/Object;" } : Jvm.MethodName)) ∈ tb := tb_mem 270 (by decide +kernel) rfl
theorem tw_271 : (Jvm.Cond.instanceMethod ({ cls := "java/util/ArrayList", name := "elementData", desc := "(I)Ljava/lang/Object;" } : Jvm.MethodName)) ∈ tb := tb_mem 271 (by decide +kernel) rfl
theorem tw_272 : (Jvm.Cond.selects "java/util/ArrayList" ({ cls := "java/util/ArrayList", name := "elementData", desc := "(I)Ljava/lang/Object;" } : Jvm.MethodName) ({ cls := "java/util/ArrayList", name := "elementData", desc := "(I)Ljava/lang/Object;" } : Jvm.MethodName)) ∈ tb := tb_mem 272 (by decide +kernel) rfl
theorem tw_273 : (Jvm.Cond.code ({ cls := "java/util/ArrayList", name := "elementData", desc := "(I)Ljava/lang/Object;" } : Jvm.MethodName) prog_17_method_18_code (2 : Nat) (Option.some (Jvm.ClassFile.FieldType.object "java/lang/Object"))) ∈ tb := tb_mem 273 (by decide +kernel) rfl
theorem tw_274 : (Jvm.Cond.classLink "BallastTrain" (206 : Nat) "BallastTrain$Order") ∈ tb := tb_mem 274 (by decide +kernel) rfl
theorem tw_275 : (Jvm.Cond.methodLink "BallastTrain" (285 : Nat) ({ cls := "java/util/ArrayList", name := "add", desc := "(Ljava/lang/Object;)Z" } : Jvm.MethodName)) ∈ tb := tb_mem 275 (by decide +kernel) rfl
theorem tw_276 : (Jvm.Cond.instanceMethod ({ cls := "java/util/ArrayList", name := "add", desc := "(Ljava/lang/Object;)Z" } : Jvm.MethodName)) ∈ tb := tb_mem 276 (by decide +kernel) rfl
theorem tw_277 : (Jvm.Cond.selects "java/util/ArrayList" ({ cls := "java/util/ArrayList", name := "add", desc := "(Ljava/lang/Object;)Z" } : Jvm.MethodName) ({ cls := "java/util/ArrayList", name := "add", desc := "(Ljava/lang/Object;)Z" } : Jvm.MethodName)) ∈ tb := tb_mem 277 (by decide +kernel) rfl
theorem tw_278 : (Jvm.Cond.code ({ cls := "java/util/ArrayList", name := "add", desc := "(Ljava/lang/Object;)Z" } : Jvm.MethodName) prog_17_method_25_code (2 : Nat) (Option.some Jvm.ClassFile.FieldType.boolean)) ∈ tb := tb_mem 278 (by decide +kernel) rfl
theorem tw_279 : (Jvm.Cond.methodLink "java/util/ArrayList" (131 : Nat) ({ cls := "java/util/ArrayList", name := "add", desc := "(Ljava/lang/Object;[Ljava/lang/Object;I)V" } : Jvm.MethodName)) ∈ tb := tb_mem 279 (by decide +kernel) rfl
theorem tw_281 : (Jvm.Cond.instanceMethod ({ cls := "java/util/ArrayList", name := "add", desc := "(Ljava/lang/Object;[Ljava/lang/Object;I)V" } : Jvm.MethodName)) ∈ tb := tb_mem 281 (by decide +kernel) rfl
theorem tw_282 : (Jvm.Cond.code ({ cls := "java/util/ArrayList", name := "add", desc := "(Ljava/lang/Object;[Ljava/lang/Object;I)V" } : Jvm.MethodName) prog_17_method_24_code (4 : Nat) (Option.none : Option Jvm.ClassFile.FieldType)) ∈ tb := tb_mem 282 (by decide +kernel) rfl
theorem tw_283 : (Jvm.Cond.methodLink "java/util/ArrayList" (129 : Nat) ({ cls := "java/util/ArrayList", name := "grow", desc := "()[Ljava/lang/Object;" } : Jvm.MethodName)) ∈ tb := tb_mem 283 (by decide +kernel) rfl
theorem tw_285 : (Jvm.Cond.instanceMethod ({ cls := "java/util/ArrayList", name := "grow", desc := "()[Ljava/lang/Object;" } : Jvm.MethodName)) ∈ tb := tb_mem 285 (by decide +kernel) rfl
theorem tw_286 : (Jvm.Cond.code ({ cls := "java/util/ArrayList", name := "grow", desc := "()[Ljava/lang/Object;" } : Jvm.MethodName) prog_17_method_7_code (1 : Nat) (Option.some (Jvm.ClassFile.FieldType.array (Jvm.ClassFile.FieldType.object "java/lang/Object")))) ∈ tb := tb_mem 286 (by decide +kernel) rfl
theorem tw_287 : (Jvm.Cond.methodLink "java/util/ArrayList" (69 : Nat) ({ cls := "java/util/ArrayList", name := "grow", desc := "(I)[Ljava/lang/Object;" } : Jvm.MethodName)) ∈ tb := tb_mem 287 (by decide +kernel) rfl
theorem tw_289 : (Jvm.Cond.instanceMethod ({ cls := "java/util/ArrayList", name := "grow", desc := "(I)[Ljava/lang/Object;" } : Jvm.MethodName)) ∈ tb := tb_mem 289 (by decide +kernel) rfl
theorem tw_290 : (Jvm.Cond.code ({ cls := "java/util/ArrayList", name := "grow", desc := "(I)[Ljava/lang/Object;" } : Jvm.MethodName) prog_17_method_6_code (4 : Nat) (Option.some (Jvm.ClassFile.FieldType.array (Jvm.ClassFile.FieldType.object "java/lang/Object")))) ∈ tb := tb_mem 290 (by decide +kernel) rfl
theorem tw_291 : (Jvm.Cond.methodLink "java/util/ArrayList" (73 : Nat) ({ cls := "jdk/internal/util/ArraysSupport", name := "newLength", desc := "(III)I" } : Jvm.MethodName)) ∈ tb := tb_mem 291 (by decide +kernel) rfl
theorem tw_292 : (Jvm.Cond.static ({ cls := "jdk/internal/util/ArraysSupport", name := "newLength", desc := "(III)I" } : Jvm.MethodName)) ∈ tb := tb_mem 292 (by decide +kernel) rfl
theorem tw_293 : (Jvm.Cond.code ({ cls := "jdk/internal/util/ArraysSupport", name := "newLength", desc := "(III)I" } : Jvm.MethodName) prog_24_method_27_code (4 : Nat) (Option.some Jvm.ClassFile.FieldType.int)) ∈ tb := tb_mem 293 (by decide +kernel) rfl
theorem tw_294 : (Jvm.Cond.methodLink "jdk/internal/util/ArraysSupport" (194 : Nat) ({ cls := "java/lang/Math", name := "max", desc := "(II)I" } : Jvm.MethodName)) ∈ tb := tb_mem 294 (by decide +kernel) rfl
theorem tw_295 : (Jvm.Cond.static ({ cls := "java/lang/Math", name := "max", desc := "(II)I" } : Jvm.MethodName)) ∈ tb := tb_mem 295 (by decide +kernel) rfl
theorem tw_297 : (Jvm.Cond.constant "jdk/internal/util/ArraysSupport" (200 : Nat) (2147483639 : Int32)) ∈ tb := tb_mem 297 (by decide +kernel) rfl
theorem tw_298 : (Jvm.Cond.methodLink "jdk/internal/util/ArraysSupport" (201 : Nat) ({ cls := "jdk/internal/util/ArraysSupport", name := "hugeLength", desc := "(II)I" } : Jvm.MethodName)) ∈ tb := tb_mem 298 (by decide +kernel) rfl
theorem tw_299 : (Jvm.Cond.static ({ cls := "jdk/internal/util/ArraysSupport", name := "hugeLength", desc := "(II)I" } : Jvm.MethodName)) ∈ tb := tb_mem 299 (by decide +kernel) rfl
theorem tw_300 : (Jvm.Cond.code ({ cls := "jdk/internal/util/ArraysSupport", name := "hugeLength", desc := "(II)I" } : Jvm.MethodName) prog_24_method_28_code (3 : Nat) (Option.some Jvm.ClassFile.FieldType.int)) ∈ tb := tb_mem 300 (by decide +kernel) rfl
theorem tw_301 : (Jvm.Cond.methodLink "java/util/ArrayList" (66 : Nat) ({ cls := "java/util/Arrays", name := "copyOf", desc := "([Ljava/lang/Object;I)[Ljava/lang/Object;" } : Jvm.MethodName)) ∈ tb := tb_mem 301 (by decide +kernel) rfl
theorem tw_302 : (Jvm.Cond.static ({ cls := "java/util/Arrays", name := "copyOf", desc := "([Ljava/lang/Object;I)[Ljava/lang/Object;" } : Jvm.MethodName)) ∈ tb := tb_mem 302 (by decide +kernel) rfl
theorem tw_303 : (Jvm.Cond.code ({ cls := "java/util/Arrays", name := "copyOf", desc := "([Ljava/lang/Object;I)[Ljava/lang/Object;" } : Jvm.MethodName) prog_18_method_119_code (2 : Nat) (Option.some (Jvm.ClassFile.FieldType.array (Jvm.ClassFile.FieldType.object "java/lang/Object")))) ∈ tb := tb_mem 303 (by decide +kernel) rfl
theorem tw_304 : (Jvm.Cond.methodLink "java/util/Arrays" (86 : Nat) ({ cls := "java/lang/Object", name := "getClass", desc := "()Ljava/lang/Class;" } : Jvm.MethodName)) ∈ tb := tb_mem 304 (by decide +kernel) rfl
theorem tw_305 : (Jvm.Cond.instanceMethod ({ cls := "java/lang/Object", name := "getClass", desc := "()Ljava/lang/Class;" } : Jvm.MethodName)) ∈ tb := tb_mem 305 (by decide +kernel) rfl
theorem tw_314 : (Jvm.Cond.native ({ cls := "java/lang/Object", name := "getClass", desc := "()Ljava/lang/Class;" } : Jvm.MethodName)) ∈ tb := tb_mem 314 (by decide +kernel) rfl
theorem tw_315 : (Jvm.Cond.methodLink "java/util/Arrays" (300 : Nat) ({ cls := "java/util/Arrays", name := "copyOf", desc := "([Ljava/lang/Object;ILjava/lang/Class;)[Ljava/lang/Object;" } : Jvm.MethodName)) ∈ tb := tb_mem 315 (by decide +kernel) rfl
theorem tw_316 : (Jvm.Cond.static ({ cls := "java/util/Arrays", name := "copyOf", desc := "([Ljava/lang/Object;ILjava/lang/Class;)[Ljava/lang/Object;" } : Jvm.MethodName)) ∈ tb := tb_mem 316 (by decide +kernel) rfl
theorem tw_317 : (Jvm.Cond.code ({ cls := "java/util/Arrays", name := "copyOf", desc := "([Ljava/lang/Object;ILjava/lang/Class;)[Ljava/lang/Object;" } : Jvm.MethodName) prog_18_method_120_code (4 : Nat) (Option.some (Jvm.ClassFile.FieldType.array (Jvm.ClassFile.FieldType.object "java/lang/Object")))) ∈ tb := tb_mem 317 (by decide +kernel) rfl
theorem tw_318 : (Jvm.Cond.classLink "java/util/Arrays" (110 : Nat) "[Ljava/lang/Object;") ∈ tb := tb_mem 318 (by decide +kernel) rfl
theorem tw_320 : (Jvm.Cond.classLink "java/util/Arrays" (2 : Nat) "java/lang/Object") ∈ tb := tb_mem 320 (by decide +kernel) rfl
theorem tw_321 : (Jvm.Cond.methodLink "java/util/Arrays" (304 : Nat) ({ cls := "java/lang/Math", name := "min", desc := "(II)I" } : Jvm.MethodName)) ∈ tb := tb_mem 321 (by decide +kernel) rfl
theorem tw_322 : (Jvm.Cond.methodLink "java/util/Arrays" (150 : Nat) ({ cls := "java/lang/System", name := "arraycopy", desc := "(Ljava/lang/Object;ILjava/lang/Object;II)V" } : Jvm.MethodName)) ∈ tb := tb_mem 322 (by decide +kernel) rfl
theorem tw_323 : (Jvm.Cond.methodLink "java/util/ArrayList" (79 : Nat) ({ cls := "java/lang/Math", name := "max", desc := "(II)I" } : Jvm.MethodName)) ∈ tb := tb_mem 323 (by decide +kernel) rfl
theorem tw_324 : (Jvm.Cond.classLink "java/util/ArrayList" (7 : Nat) "java/lang/Object") ∈ tb := tb_mem 324 (by decide +kernel) rfl
theorem tw_325 : (Jvm.Cond.methodLink "BallastTrain$History" (35 : Nat) ({ cls := "java/lang/Math", name := "min", desc := "(II)I" } : Jvm.MethodName)) ∈ tb := tb_mem 325 (by decide +kernel) rfl
theorem tw_326 : (Jvm.Cond.methodLink "BallastTrainLaw" (42 : Nat) ({ cls := "BallastTrain", name := "door", desc := "(III)I" } : Jvm.MethodName)) ∈ tb := tb_mem 326 (by decide +kernel) rfl
theorem tw_327 : (Jvm.Cond.instanceMethod ({ cls := "BallastTrain", name := "door", desc := "(III)I" } : Jvm.MethodName)) ∈ tb := tb_mem 327 (by decide +kernel) rfl
theorem tw_328 : (Jvm.Cond.selects "BallastTrain" ({ cls := "BallastTrain", name := "door", desc := "(III)I" } : Jvm.MethodName) ({ cls := "BallastTrain", name := "door", desc := "(III)I" } : Jvm.MethodName)) ∈ tb := tb_mem 328 (by decide +kernel) rfl
theorem tw_329 : (Jvm.Cond.code ({ cls := "BallastTrain", name := "door", desc := "(III)I" } : Jvm.MethodName) prog_1_method_8_code (5 : Nat) (Option.some Jvm.ClassFile.FieldType.int)) ∈ tb := tb_mem 329 (by decide +kernel) rfl
theorem tw_330 : (Jvm.Cond.methodLink "BallastTrain" (94 : Nat) ({ cls := "BallastTrain$Train", name := "hasDoor", desc := "(II)Z" } : Jvm.MethodName)) ∈ tb := tb_mem 330 (by decide +kernel) rfl
theorem tw_331 : (Jvm.Cond.instanceMethod ({ cls := "BallastTrain$Train", name := "hasDoor", desc := "(II)Z" } : Jvm.MethodName)) ∈ tb := tb_mem 331 (by decide +kernel) rfl
theorem tw_332 : (Jvm.Cond.selects "BallastTrain$Train" ({ cls := "BallastTrain$Train", name := "hasDoor", desc := "(II)Z" } : Jvm.MethodName) ({ cls := "BallastTrain$Train", name := "hasDoor", desc := "(II)Z" } : Jvm.MethodName)) ∈ tb := tb_mem 332 (by decide +kernel) rfl
theorem tw_333 : (Jvm.Cond.code ({ cls := "BallastTrain$Train", name := "hasDoor", desc := "(II)Z" } : Jvm.MethodName) prog_7_method_5_code (3 : Nat) (Option.some Jvm.ClassFile.FieldType.boolean)) ∈ tb := tb_mem 333 (by decide +kernel) rfl
theorem tw_334 : (Jvm.Cond.methodLink "BallastTrain" (98 : Nat) ({ cls := "BallastTrain$Train", name := "levelOf", desc := "(II)I" } : Jvm.MethodName)) ∈ tb := tb_mem 334 (by decide +kernel) rfl
theorem tw_335 : (Jvm.Cond.instanceMethod ({ cls := "BallastTrain$Train", name := "levelOf", desc := "(II)I" } : Jvm.MethodName)) ∈ tb := tb_mem 335 (by decide +kernel) rfl
theorem tw_336 : (Jvm.Cond.selects "BallastTrain$Train" ({ cls := "BallastTrain$Train", name := "levelOf", desc := "(II)I" } : Jvm.MethodName) ({ cls := "BallastTrain$Train", name := "levelOf", desc := "(II)I" } : Jvm.MethodName)) ∈ tb := tb_mem 336 (by decide +kernel) rfl
theorem tw_337 : (Jvm.Cond.code ({ cls := "BallastTrain$Train", name := "levelOf", desc := "(II)I" } : Jvm.MethodName) prog_7_method_6_code (3 : Nat) (Option.some Jvm.ClassFile.FieldType.int)) ∈ tb := tb_mem 337 (by decide +kernel) rfl
theorem tw_338 : (Jvm.Cond.methodLink "BallastTrain$Train" (47 : Nat) ({ cls := "BallastTrain$Train", name := "hasDoor", desc := "(II)Z" } : Jvm.MethodName)) ∈ tb := tb_mem 338 (by decide +kernel) rfl
theorem tw_339 : (Jvm.Cond.methodLink "BallastTrain" (102 : Nat) ({ cls := "BallastTrain$Train", name := "closeDoor", desc := "(III)V" } : Jvm.MethodName)) ∈ tb := tb_mem 339 (by decide +kernel) rfl
theorem tw_340 : (Jvm.Cond.instanceMethod ({ cls := "BallastTrain$Train", name := "closeDoor", desc := "(III)V" } : Jvm.MethodName)) ∈ tb := tb_mem 340 (by decide +kernel) rfl
theorem tw_341 : (Jvm.Cond.selects "BallastTrain$Train" ({ cls := "BallastTrain$Train", name := "closeDoor", desc := "(III)V" } : Jvm.MethodName) ({ cls := "BallastTrain$Train", name := "closeDoor", desc := "(III)V" } : Jvm.MethodName)) ∈ tb := tb_mem 341 (by decide +kernel) rfl
theorem tw_342 : (Jvm.Cond.code ({ cls := "BallastTrain$Train", name := "closeDoor", desc := "(III)V" } : Jvm.MethodName) prog_7_method_13_code (4 : Nat) (Option.none : Option Jvm.ClassFile.FieldType)) ∈ tb := tb_mem 342 (by decide +kernel) rfl
theorem tw_343 : (Jvm.Cond.methodLink "BallastTrain" (106 : Nat) ({ cls := "BallastTrain$Train", name := "openDoor", desc := "(III)V" } : Jvm.MethodName)) ∈ tb := tb_mem 343 (by decide +kernel) rfl
theorem tw_344 : (Jvm.Cond.instanceMethod ({ cls := "BallastTrain$Train", name := "openDoor", desc := "(III)V" } : Jvm.MethodName)) ∈ tb := tb_mem 344 (by decide +kernel) rfl
theorem tw_345 : (Jvm.Cond.selects "BallastTrain$Train" ({ cls := "BallastTrain$Train", name := "openDoor", desc := "(III)V" } : Jvm.MethodName) ({ cls := "BallastTrain$Train", name := "openDoor", desc := "(III)V" } : Jvm.MethodName)) ∈ tb := tb_mem 345 (by decide +kernel) rfl
theorem tw_346 : (Jvm.Cond.code ({ cls := "BallastTrain$Train", name := "openDoor", desc := "(III)V" } : Jvm.MethodName) prog_7_method_12_code (4 : Nat) (Option.none : Option Jvm.ClassFile.FieldType)) ∈ tb := tb_mem 346 (by decide +kernel) rfl
theorem tw_347 : (Jvm.Cond.methodLink "BallastTrainLaw" (91 : Nat) ({ cls := "BallastTrain", name := "cancel", desc := "(I)I" } : Jvm.MethodName)) ∈ tb := tb_mem 347 (by decide +kernel) rfl
theorem tw_348 : (Jvm.Cond.instanceMethod ({ cls := "BallastTrain", name := "cancel", desc := "(I)I" } : Jvm.MethodName)) ∈ tb := tb_mem 348 (by decide +kernel) rfl
theorem tw_349 : (Jvm.Cond.selects "BallastTrain" ({ cls := "BallastTrain", name := "cancel", desc := "(I)I" } : Jvm.MethodName) ({ cls := "BallastTrain", name := "cancel", desc := "(I)I" } : Jvm.MethodName)) ∈ tb := tb_mem 349 (by decide +kernel) rfl
theorem tw_350 : (Jvm.Cond.code ({ cls := "BallastTrain", name := "cancel", desc := "(I)I" } : Jvm.MethodName) prog_1_method_11_code (2 : Nat) (Option.some Jvm.ClassFile.FieldType.int)) ∈ tb := tb_mem 350 (by decide +kernel) rfl
theorem tw_351 : (Jvm.Cond.methodLink "BallastTrain" (126 : Nat) ({ cls := "java/util/ArrayList", name := "remove", desc := "(I)Ljava/lang/Object;" } : Jvm.MethodName)) ∈ tb := tb_mem 351 (by decide +kernel) rfl
theorem tw_352 : (Jvm.Cond.instanceMethod ({ cls := "java/util/ArrayList", name := "remove", desc := "(I)Ljava/lang/Object;" } : Jvm.MethodName)) ∈ tb := tb_mem 352 (by decide +kernel) rfl
theorem tw_353 : (Jvm.Cond.selects "java/util/ArrayList" ({ cls := "java/util/ArrayList", name := "remove", desc := "(I)Ljava/lang/Object;" } : Jvm.MethodName) ({ cls := "java/util/ArrayList", name := "remove", desc := "(I)Ljava/lang/Object;" } : Jvm.MethodName)) ∈ tb := tb_mem 353 (by decide +kernel) rfl
theorem tw_354 : (Jvm.Cond.code ({ cls := "java/util/ArrayList", name := "remove", desc := "(I)Ljava/lang/Object;" } : Jvm.MethodName) prog_17_method_29_code (4 : Nat) (Option.some (Jvm.ClassFile.FieldType.object "java/lang/Object"))) ∈ tb := tb_mem 354 (by decide +kernel) rfl
theorem tw_355 : (Jvm.Cond.methodLink "java/util/ArrayList" (144 : Nat) ({ cls := "java/util/ArrayList", name := "fastRemove", desc := "([Ljava/lang/Object;I)V" } : Jvm.MethodName)) ∈ tb := tb_mem 355 (by decide +kernel) rfl
theorem tw_357 : (Jvm.Cond.instanceMethod ({ cls := "java/util/ArrayList", name := "fastRemove", desc := "([Ljava/lang/Object;I)V" } : Jvm.MethodName)) ∈ tb := tb_mem 357 (by decide +kernel) rfl
theorem tw_358 : (Jvm.Cond.code ({ cls := "java/util/ArrayList", name := "fastRemove", desc := "([Ljava/lang/Object;I)V" } : Jvm.MethodName) prog_17_method_39_code (4 : Nat) (Option.none : Option Jvm.ClassFile.FieldType)) ∈ tb := tb_mem 358 (by decide +kernel) rfl
theorem tw_359 : (Jvm.Cond.methodLink "java/util/ArrayList" (112 : Nat) ({ cls := "java/lang/System", name := "arraycopy", desc := "(Ljava/lang/Object;ILjava/lang/Object;II)V" } : Jvm.MethodName)) ∈ tb := tb_mem 359 (by decide +kernel) rfl
theorem tw_360 : (Jvm.Cond.methodLink "BallastTrainLaw" (54 : Nat) ({ cls := "BallastTrain", name := "pass", desc := "(I)I" } : Jvm.MethodName)) ∈ tb := tb_mem 360 (by decide +kernel) rfl
theorem tw_361 : (Jvm.Cond.instanceMethod ({ cls := "BallastTrain", name := "pass", desc := "(I)I" } : Jvm.MethodName)) ∈ tb := tb_mem 361 (by decide +kernel) rfl
theorem tw_362 : (Jvm.Cond.selects "BallastTrain" ({ cls := "BallastTrain", name := "pass", desc := "(I)I" } : Jvm.MethodName) ({ cls := "BallastTrain", name := "pass", desc := "(I)I" } : Jvm.MethodName)) ∈ tb := tb_mem 362 (by decide +kernel) rfl
theorem tw_363 : (Jvm.Cond.code ({ cls := "BallastTrain", name := "pass", desc := "(I)I" } : Jvm.MethodName) prog_1_method_12_code (3 : Nat) (Option.some Jvm.ClassFile.FieldType.int)) ∈ tb := tb_mem 363 (by decide +kernel) rfl
theorem tw_364 : (Jvm.Cond.methodLink "BallastTrain" (133 : Nat) ({ cls := "BallastTrain$State", name := "passSecond", desc := "()V" } : Jvm.MethodName)) ∈ tb := tb_mem 364 (by decide +kernel) rfl
theorem tw_365 : (Jvm.Cond.instanceMethod ({ cls := "BallastTrain$State", name := "passSecond", desc := "()V" } : Jvm.MethodName)) ∈ tb := tb_mem 365 (by decide +kernel) rfl
theorem tw_366 : (Jvm.Cond.selects "BallastTrain$State" ({ cls := "BallastTrain$State", name := "passSecond", desc := "()V" } : Jvm.MethodName) ({ cls := "BallastTrain$State", name := "passSecond", desc := "()V" } : Jvm.MethodName)) ∈ tb := tb_mem 366 (by decide +kernel) rfl
theorem tw_367 : (Jvm.Cond.code ({ cls := "BallastTrain$State", name := "passSecond", desc := "()V" } : Jvm.MethodName) prog_4_method_3_code (1 : Nat) (Option.none : Option Jvm.ClassFile.FieldType)) ∈ tb := tb_mem 367 (by decide +kernel) rfl
theorem tw_368 : (Jvm.Cond.methodLink "BallastTrain$State" (70 : Nat) ({ cls := "BallastTrain$Train", name := "move", desc := "()V" } : Jvm.MethodName)) ∈ tb := tb_mem 368 (by decide +kernel) rfl
theorem tw_369 : (Jvm.Cond.instanceMethod ({ cls := "BallastTrain$Train", name := "move", desc := "()V" } : Jvm.MethodName)) ∈ tb := tb_mem 369 (by decide +kernel) rfl
theorem tw_370 : (Jvm.Cond.selects "BallastTrain$Train" ({ cls := "BallastTrain$Train", name := "move", desc := "()V" } : Jvm.MethodName) ({ cls := "BallastTrain$Train", name := "move", desc := "()V" } : Jvm.MethodName)) ∈ tb := tb_mem 370 (by decide +kernel) rfl
theorem tw_371 : (Jvm.Cond.code ({ cls := "BallastTrain$Train", name := "move", desc := "()V" } : Jvm.MethodName) prog_7_method_14_code (1 : Nat) (Option.none : Option Jvm.ClassFile.FieldType)) ∈ tb := tb_mem 371 (by decide +kernel) rfl
theorem tw_372 : (Jvm.Cond.methodLink "BallastTrain$Train" (62 : Nat) ({ cls := "java/lang/Math", name := "min", desc := "(II)I" } : Jvm.MethodName)) ∈ tb := tb_mem 372 (by decide +kernel) rfl
theorem tw_373 : (Jvm.Cond.methodLink "BallastTrain$State" (73 : Nat) ({ cls := "BallastTrain$State", name := "carryOutOrders", desc := "()V" } : Jvm.MethodName)) ∈ tb := tb_mem 373 (by decide +kernel) rfl
theorem tw_375 : (Jvm.Cond.instanceMethod ({ cls := "BallastTrain$State", name := "carryOutOrders", desc := "()V" } : Jvm.MethodName)) ∈ tb := tb_mem 375 (by decide +kernel) rfl
theorem tw_376 : (Jvm.Cond.code ({ cls := "BallastTrain$State", name := "carryOutOrders", desc := "()V" } : Jvm.MethodName) prog_4_method_7_code (4 : Nat) (Option.none : Option Jvm.ClassFile.FieldType)) ∈ tb := tb_mem 376 (by decide +kernel) rfl
theorem tw_377 : (Jvm.Cond.methodLink "BallastTrain$State" (111 : Nat) ({ cls := "java/util/ArrayList", name := "size", desc := "()I" } : Jvm.MethodName)) ∈ tb := tb_mem 377 (by decide +kernel) rfl
theorem tw_378 : (Jvm.Cond.methodLink "BallastTrain$State" (115 : Nat) ({ cls := "java/util/ArrayList", name := "get", desc := "(I)Ljava/lang/Object;" } : Jvm.MethodName)) ∈ tb := tb_mem 378 (by decide +kernel) rfl
theorem tw_379 : (Jvm.Cond.classLink "BallastTrain$State" (119 : Nat) "BallastTrain$Order") ∈ tb := tb_mem 379 (by decide +kernel) rfl
theorem tw_380 : (Jvm.Cond.methodLink "BallastTrain$State" (121 : Nat) ({ cls := "BallastTrain$Order", name := "isDue", desc := "(LBallastTrain$Train;)Z" } : Jvm.MethodName)) ∈ tb := tb_mem 380 (by decide +kernel) rfl
theorem tw_381 : (Jvm.Cond.instanceMethod ({ cls := "BallastTrain$Order", name := "isDue", desc := "(LBallastTrain$Train;)Z" } : Jvm.MethodName)) ∈ tb := tb_mem 381 (by decide +kernel) rfl
theorem tw_382 : (Jvm.Cond.selects "BallastTrain$Order" ({ cls := "BallastTrain$Order", name := "isDue", desc := "(LBallastTrain$Train;)Z" } : Jvm.MethodName) ({ cls := "BallastTrain$Order", name := "isDue", desc := "(LBallastTrain$Train;)Z" } : Jvm.MethodName)) ∈ tb := tb_mem 382 (by decide +kernel) rfl
theorem tw_384 : (Jvm.Cond.methodLink "BallastTrain$Order" (32 : Nat) ({ cls := "BallastTrain$Train", name := "hasDoor", desc := "(II)Z" } : Jvm.MethodName)) ∈ tb := tb_mem 384 (by decide +kernel) rfl
theorem tw_385 : (Jvm.Cond.methodLink "BallastTrain$Order" (36 : Nat) ({ cls := "BallastTrain$Train", name := "cellBelow", desc := "(I)I" } : Jvm.MethodName)) ∈ tb := tb_mem 385 (by decide +kernel) rfl
theorem tw_386 : (Jvm.Cond.instanceMethod ({ cls := "BallastTrain$Train", name := "cellBelow", desc := "(I)I" } : Jvm.MethodName)) ∈ tb := tb_mem 386 (by decide +kernel) rfl
theorem tw_387 : (Jvm.Cond.selects "BallastTrain$Train" ({ cls := "BallastTrain$Train", name := "cellBelow", desc := "(I)I" } : Jvm.MethodName) ({ cls := "BallastTrain$Train", name := "cellBelow", desc := "(I)I" } : Jvm.MethodName)) ∈ tb := tb_mem 387 (by decide +kernel) rfl
theorem tw_388 : (Jvm.Cond.code ({ cls := "BallastTrain$Train", name := "cellBelow", desc := "(I)I" } : Jvm.MethodName) prog_7_method_8_code (2 : Nat) (Option.some Jvm.ClassFile.FieldType.int)) ∈ tb := tb_mem 388 (by decide +kernel) rfl
theorem tw_389 : (Jvm.Cond.methodLink "BallastTrain$State" (125 : Nat) ({ cls := "BallastTrain$Order", name := "carryOut", desc := "(LBallastTrain$Train;I)V" } : Jvm.MethodName)) ∈ tb := tb_mem 389 (by decide +kernel) rfl
theorem tw_390 : (Jvm.Cond.instanceMethod ({ cls := "BallastTrain$Order", name := "carryOut", desc := "(LBallastTrain$Train;I)V" } : Jvm.MethodName)) ∈ tb := tb_mem 390 (by decide +kernel) rfl
theorem tw_391 : (Jvm.Cond.selects "BallastTrain$Order" ({ cls := "BallastTrain$Order", name := "carryOut", desc := "(LBallastTrain$Train;I)V" } : Jvm.MethodName) ({ cls := "BallastTrain$Order", name := "carryOut", desc := "(LBallastTrain$Train;I)V" } : Jvm.MethodName)) ∈ tb := tb_mem 391 (by decide +kernel) rfl
theorem tw_393 : (Jvm.Cond.methodLink "BallastTrain$Order" (43 : Nat) ({ cls := "BallastTrain$Train", name := "openDoor", desc := "(III)V" } : Jvm.MethodName)) ∈ tb := tb_mem 393 (by decide +kernel) rfl
theorem tw_394 : (Jvm.Cond.methodLink "BallastTrain$Order" (47 : Nat) ({ cls := "BallastTrain$Train", name := "closeDoor", desc := "(III)V" } : Jvm.MethodName)) ∈ tb := tb_mem 394 (by decide +kernel) rfl
theorem tw_395 : (Jvm.Cond.methodLink "BallastTrain$State" (129 : Nat) ({ cls := "java/util/ArrayList", name := "set", desc := "(ILjava/lang/Object;)Ljava/lang/Object;" } : Jvm.MethodName)) ∈ tb := tb_mem 395 (by decide +kernel) rfl
theorem tw_396 : (Jvm.Cond.instanceMethod ({ cls := "java/util/ArrayList", name := "set", desc := "(ILjava/lang/Object;)Ljava/lang/Object;" } : Jvm.MethodName)) ∈ tb := tb_mem 396 (by decide +kernel) rfl
theorem tw_397 : (Jvm.Cond.selects "java/util/ArrayList" ({ cls := "java/util/ArrayList", name := "set", desc := "(ILjava/lang/Object;)Ljava/lang/Object;" } : Jvm.MethodName) ({ cls := "java/util/ArrayList", name := "set", desc := "(ILjava/lang/Object;)Ljava/lang/Object;" } : Jvm.MethodName)) ∈ tb := tb_mem 397 (by decide +kernel) rfl
theorem tw_398 : (Jvm.Cond.code ({ cls := "java/util/ArrayList", name := "set", desc := "(ILjava/lang/Object;)Ljava/lang/Object;" } : Jvm.MethodName) prog_17_method_23_code (4 : Nat) (Option.some (Jvm.ClassFile.FieldType.object "java/lang/Object"))) ∈ tb := tb_mem 398 (by decide +kernel) rfl
theorem tw_399 : (Jvm.Cond.methodLink "BallastTrain$State" (133 : Nat) ({ cls := "java/util/ArrayList", name := "remove", desc := "(I)Ljava/lang/Object;" } : Jvm.MethodName)) ∈ tb := tb_mem 399 (by decide +kernel) rfl
theorem tw_400 : (Jvm.Cond.methodLink "BallastTrain$State" (76 : Nat) ({ cls := "BallastTrain$State", name := "unload", desc := "()V" } : Jvm.MethodName)) ∈ tb := tb_mem 400 (by decide +kernel) rfl
theorem tw_402 : (Jvm.Cond.instanceMethod ({ cls := "BallastTrain$State", name := "unload", desc := "()V" } : Jvm.MethodName)) ∈ tb := tb_mem 402 (by decide +kernel) rfl
theorem tw_403 : (Jvm.Cond.code ({ cls := "BallastTrain$State", name := "unload", desc := "()V" } : Jvm.MethodName) prog_4_method_5_code (3 : Nat) (Option.none : Option Jvm.ClassFile.FieldType)) ∈ tb := tb_mem 403 (by decide +kernel) rfl
theorem tw_404 : (Jvm.Cond.methodLink "BallastTrain$State" (93 : Nat) ({ cls := "BallastTrain$Train", name := "cellBelow", desc := "(I)I" } : Jvm.MethodName)) ∈ tb := tb_mem 404 (by decide +kernel) rfl
theorem tw_405 : (Jvm.Cond.methodLink "BallastTrain$State" (96 : Nat) ({ cls := "BallastTrain$Train", name := "drop", desc := "(II)I" } : Jvm.MethodName)) ∈ tb := tb_mem 405 (by decide +kernel) rfl
theorem tw_406 : (Jvm.Cond.instanceMethod ({ cls := "BallastTrain$Train", name := "drop", desc := "(II)I" } : Jvm.MethodName)) ∈ tb := tb_mem 406 (by decide +kernel) rfl
theorem tw_407 : (Jvm.Cond.selects "BallastTrain$Train" ({ cls := "BallastTrain$Train", name := "drop", desc := "(II)I" } : Jvm.MethodName) ({ cls := "BallastTrain$Train", name := "drop", desc := "(II)I" } : Jvm.MethodName)) ∈ tb := tb_mem 407 (by decide +kernel) rfl
theorem tw_408 : (Jvm.Cond.code ({ cls := "BallastTrain$Train", name := "drop", desc := "(II)I" } : Jvm.MethodName) prog_7_method_15_code (4 : Nat) (Option.some Jvm.ClassFile.FieldType.int)) ∈ tb := tb_mem 408 (by decide +kernel) rfl
theorem tw_409 : (Jvm.Cond.methodLink "BallastTrain$State" (100 : Nat) ({ cls := "BallastTrain$State", name := "land", desc := "(III)V" } : Jvm.MethodName)) ∈ tb := tb_mem 409 (by decide +kernel) rfl
theorem tw_411 : (Jvm.Cond.instanceMethod ({ cls := "BallastTrain$State", name := "land", desc := "(III)V" } : Jvm.MethodName)) ∈ tb := tb_mem 411 (by decide +kernel) rfl
theorem tw_412 : (Jvm.Cond.code ({ cls := "BallastTrain$State", name := "land", desc := "(III)V" } : Jvm.MethodName) prog_4_method_6_code (4 : Nat) (Option.none : Option Jvm.ClassFile.FieldType)) ∈ tb := tb_mem 412 (by decide +kernel) rfl
theorem tw_413 : (Jvm.Cond.methodLink "BallastTrain$State" (104 : Nat) ({ cls := "BallastTrain$Track", name := "has", desc := "(II)Z" } : Jvm.MethodName)) ∈ tb := tb_mem 413 (by decide +kernel) rfl
theorem tw_414 : (Jvm.Cond.static ({ cls := "BallastTrain$Track", name := "has", desc := "(II)Z" } : Jvm.MethodName)) ∈ tb := tb_mem 414 (by decide +kernel) rfl
theorem tw_415 : (Jvm.Cond.code ({ cls := "BallastTrain$Track", name := "has", desc := "(II)Z" } : Jvm.MethodName) prog_6_method_2_code (2 : Nat) (Option.some Jvm.ClassFile.FieldType.boolean)) ∈ tb := tb_mem 415 (by decide +kernel) rfl
theorem tw_416 : (Jvm.Cond.methodLink "BallastTrain$State" (108 : Nat) ({ cls := "BallastTrain$Track", name := "add", desc := "(III)V" } : Jvm.MethodName)) ∈ tb := tb_mem 416 (by decide +kernel) rfl
theorem tw_417 : (Jvm.Cond.instanceMethod ({ cls := "BallastTrain$Track", name := "add", desc := "(III)V" } : Jvm.MethodName)) ∈ tb := tb_mem 417 (by decide +kernel) rfl
theorem tw_418 : (Jvm.Cond.selects "BallastTrain$Track" ({ cls := "BallastTrain$Track", name := "add", desc := "(III)V" } : Jvm.MethodName) ({ cls := "BallastTrain$Track", name := "add", desc := "(III)V" } : Jvm.MethodName)) ∈ tb := tb_mem 418 (by decide +kernel) rfl
theorem tw_419 : (Jvm.Cond.code ({ cls := "BallastTrain$Track", name := "add", desc := "(III)V" } : Jvm.MethodName) prog_6_method_4_code (4 : Nat) (Option.none : Option Jvm.ClassFile.FieldType)) ∈ tb := tb_mem 419 (by decide +kernel) rfl
theorem tw_420 : (Jvm.Cond.methodLink "BallastTrain$Track" (15 : Nat) ({ cls := "BallastTrain$Track", name := "has", desc := "(II)Z" } : Jvm.MethodName)) ∈ tb := tb_mem 420 (by decide +kernel) rfl
theorem tw_421 : (Jvm.Cond.methodLink "BallastTrain$State" (79 : Nat) ({ cls := "BallastTrain$Track", name := "slide", desc := "(I)V" } : Jvm.MethodName)) ∈ tb := tb_mem 421 (by decide +kernel) rfl
theorem tw_422 : (Jvm.Cond.instanceMethod ({ cls := "BallastTrain$Track", name := "slide", desc := "(I)V" } : Jvm.MethodName)) ∈ tb := tb_mem 422 (by decide +kernel) rfl
theorem tw_423 : (Jvm.Cond.selects "BallastTrain$Track" ({ cls := "BallastTrain$Track", name := "slide", desc := "(I)V" } : Jvm.MethodName) ({ cls := "BallastTrain$Track", name := "slide", desc := "(I)V" } : Jvm.MethodName)) ∈ tb := tb_mem 423 (by decide +kernel) rfl
theorem tw_424 : (Jvm.Cond.code ({ cls := "BallastTrain$Track", name := "slide", desc := "(I)V" } : Jvm.MethodName) prog_6_method_5_code (4 : Nat) (Option.none : Option Jvm.ClassFile.FieldType)) ∈ tb := tb_mem 424 (by decide +kernel) rfl
theorem tw_425 : (Jvm.Cond.methodLink "BallastTrain$State" (83 : Nat) ({ cls := "BallastTrain$Track", name := "cutShoulders", desc := "(I)I" } : Jvm.MethodName)) ∈ tb := tb_mem 425 (by decide +kernel) rfl
theorem tw_426 : (Jvm.Cond.instanceMethod ({ cls := "BallastTrain$Track", name := "cutShoulders", desc := "(I)I" } : Jvm.MethodName)) ∈ tb := tb_mem 426 (by decide +kernel) rfl
theorem tw_427 : (Jvm.Cond.selects "BallastTrain$Track" ({ cls := "BallastTrain$Track", name := "cutShoulders", desc := "(I)I" } : Jvm.MethodName) ({ cls := "BallastTrain$Track", name := "cutShoulders", desc := "(I)I" } : Jvm.MethodName)) ∈ tb := tb_mem 427 (by decide +kernel) rfl
theorem tw_428 : (Jvm.Cond.code ({ cls := "BallastTrain$Track", name := "cutShoulders", desc := "(I)I" } : Jvm.MethodName) prog_6_method_6_code (5 : Nat) (Option.some Jvm.ClassFile.FieldType.int)) ∈ tb := tb_mem 428 (by decide +kernel) rfl
theorem tw_429 : (Jvm.Cond.methodLink "BallastTrain$State" (87 : Nat) ({ cls := "BallastTrain$Train", name := "closeFurther", desc := "(I)I" } : Jvm.MethodName)) ∈ tb := tb_mem 429 (by decide +kernel) rfl
theorem tw_430 : (Jvm.Cond.instanceMethod ({ cls := "BallastTrain$Train", name := "closeFurther", desc := "(I)I" } : Jvm.MethodName)) ∈ tb := tb_mem 430 (by decide +kernel) rfl
theorem tw_431 : (Jvm.Cond.selects "BallastTrain$Train" ({ cls := "BallastTrain$Train", name := "closeFurther", desc := "(I)I" } : Jvm.MethodName) ({ cls := "BallastTrain$Train", name := "closeFurther", desc := "(I)I" } : Jvm.MethodName)) ∈ tb := tb_mem 431 (by decide +kernel) rfl
theorem tw_432 : (Jvm.Cond.code ({ cls := "BallastTrain$Train", name := "closeFurther", desc := "(I)I" } : Jvm.MethodName) prog_7_method_16_code (5 : Nat) (Option.some Jvm.ClassFile.FieldType.int)) ∈ tb := tb_mem 432 (by decide +kernel) rfl
theorem tw_433 : (Jvm.Cond.methodLink "BallastTrainLaw" (87 : Nat) ({ cls := "BallastTrain", name := "undo", desc := "()I" } : Jvm.MethodName)) ∈ tb := tb_mem 433 (by decide +kernel) rfl
theorem tw_434 : (Jvm.Cond.instanceMethod ({ cls := "BallastTrain", name := "undo", desc := "()I" } : Jvm.MethodName)) ∈ tb := tb_mem 434 (by decide +kernel) rfl
theorem tw_435 : (Jvm.Cond.selects "BallastTrain" ({ cls := "BallastTrain", name := "undo", desc := "()I" } : Jvm.MethodName) ({ cls := "BallastTrain", name := "undo", desc := "()I" } : Jvm.MethodName)) ∈ tb := tb_mem 435 (by decide +kernel) rfl
theorem tw_436 : (Jvm.Cond.code ({ cls := "BallastTrain", name := "undo", desc := "()I" } : Jvm.MethodName) prog_1_method_14_code (1 : Nat) (Option.some Jvm.ClassFile.FieldType.int)) ∈ tb := tb_mem 436 (by decide +kernel) rfl
theorem tw_437 : (Jvm.Cond.methodLink "BallastTrain" (161 : Nat) ({ cls := "BallastTrain$History", name := "restore", desc := "(LBallastTrain$State;)V" } : Jvm.MethodName)) ∈ tb := tb_mem 437 (by decide +kernel) rfl
theorem tw_438 : (Jvm.Cond.instanceMethod ({ cls := "BallastTrain$History", name := "restore", desc := "(LBallastTrain$State;)V" } : Jvm.MethodName)) ∈ tb := tb_mem 438 (by decide +kernel) rfl
theorem tw_439 : (Jvm.Cond.selects "BallastTrain$History" ({ cls := "BallastTrain$History", name := "restore", desc := "(LBallastTrain$State;)V" } : Jvm.MethodName) ({ cls := "BallastTrain$History", name := "restore", desc := "(LBallastTrain$State;)V" } : Jvm.MethodName)) ∈ tb := tb_mem 439 (by decide +kernel) rfl
theorem tw_440 : (Jvm.Cond.code ({ cls := "BallastTrain$History", name := "restore", desc := "(LBallastTrain$State;)V" } : Jvm.MethodName) prog_2_method_3_code (2 : Nat) (Option.none : Option Jvm.ClassFile.FieldType)) ∈ tb := tb_mem 440 (by decide +kernel) rfl
theorem tw_441 : (Jvm.Cond.methodLink "BallastTrainLaw" (60 : Nat) ({ cls := "BallastTrain", name := "wagon", desc := "(II)I" } : Jvm.MethodName)) ∈ tb := tb_mem 441 (by decide +kernel) rfl
theorem tw_442 : (Jvm.Cond.instanceMethod ({ cls := "BallastTrain", name := "wagon", desc := "(II)I" } : Jvm.MethodName)) ∈ tb := tb_mem 442 (by decide +kernel) rfl
theorem tw_443 : (Jvm.Cond.selects "BallastTrain" ({ cls := "BallastTrain", name := "wagon", desc := "(II)I" } : Jvm.MethodName) ({ cls := "BallastTrain", name := "wagon", desc := "(II)I" } : Jvm.MethodName)) ∈ tb := tb_mem 443 (by decide +kernel) rfl
theorem tw_444 : (Jvm.Cond.code ({ cls := "BallastTrain", name := "wagon", desc := "(II)I" } : Jvm.MethodName) prog_1_method_15_code (3 : Nat) (Option.some Jvm.ClassFile.FieldType.int)) ∈ tb := tb_mem 444 (by decide +kernel) rfl
theorem tw_445 : (Jvm.Cond.methodLink "BallastTrain" (164 : Nat) ({ cls := "BallastTrain$Train", name := "cellBelow", desc := "(I)I" } : Jvm.MethodName)) ∈ tb := tb_mem 445 (by decide +kernel) rfl
theorem tw_446 : (Jvm.Cond.methodLink "BallastTrain" (168 : Nat) ({ cls := "BallastTrain$Train", name := "sumOfLevels", desc := "(I)I" } : Jvm.MethodName)) ∈ tb := tb_mem 446 (by decide +kernel) rfl
theorem tw_447 : (Jvm.Cond.instanceMethod ({ cls := "BallastTrain$Train", name := "sumOfLevels", desc := "(I)I" } : Jvm.MethodName)) ∈ tb := tb_mem 447 (by decide +kernel) rfl
theorem tw_448 : (Jvm.Cond.selects "BallastTrain$Train" ({ cls := "BallastTrain$Train", name := "sumOfLevels", desc := "(I)I" } : Jvm.MethodName) ({ cls := "BallastTrain$Train", name := "sumOfLevels", desc := "(I)I" } : Jvm.MethodName)) ∈ tb := tb_mem 448 (by decide +kernel) rfl
theorem tw_449 : (Jvm.Cond.code ({ cls := "BallastTrain$Train", name := "sumOfLevels", desc := "(I)I" } : Jvm.MethodName) prog_7_method_10_code (4 : Nat) (Option.some Jvm.ClassFile.FieldType.int)) ∈ tb := tb_mem 449 (by decide +kernel) rfl
theorem tw_450 : (Jvm.Cond.methodLink "BallastTrain$Train" (55 : Nat) ({ cls := "BallastTrain$Train", name := "levelOf", desc := "(II)I" } : Jvm.MethodName)) ∈ tb := tb_mem 450 (by decide +kernel) rfl
theorem tw_451 : (Jvm.Cond.methodLink "BallastTrain" (171 : Nat) ({ cls := "BallastTrain$Train", name := "closingDoors", desc := "(I)I" } : Jvm.MethodName)) ∈ tb := tb_mem 451 (by decide +kernel) rfl
theorem tw_452 : (Jvm.Cond.instanceMethod ({ cls := "BallastTrain$Train", name := "closingDoors", desc := "(I)I" } : Jvm.MethodName)) ∈ tb := tb_mem 452 (by decide +kernel) rfl
theorem tw_453 : (Jvm.Cond.selects "BallastTrain$Train" ({ cls := "BallastTrain$Train", name := "closingDoors", desc := "(I)I" } : Jvm.MethodName) ({ cls := "BallastTrain$Train", name := "closingDoors", desc := "(I)I" } : Jvm.MethodName)) ∈ tb := tb_mem 453 (by decide +kernel) rfl
theorem tw_454 : (Jvm.Cond.code ({ cls := "BallastTrain$Train", name := "closingDoors", desc := "(I)I" } : Jvm.MethodName) prog_7_method_11_code (4 : Nat) (Option.some Jvm.ClassFile.FieldType.int)) ∈ tb := tb_mem 454 (by decide +kernel) rfl
theorem tw_455 : (Jvm.Cond.methodLink "BallastTrain$Train" (59 : Nat) ({ cls := "BallastTrain$Train", name := "restOf", desc := "(II)I" } : Jvm.MethodName)) ∈ tb := tb_mem 455 (by decide +kernel) rfl
theorem tw_456 : (Jvm.Cond.instanceMethod ({ cls := "BallastTrain$Train", name := "restOf", desc := "(II)I" } : Jvm.MethodName)) ∈ tb := tb_mem 456 (by decide +kernel) rfl
theorem tw_457 : (Jvm.Cond.selects "BallastTrain$Train" ({ cls := "BallastTrain$Train", name := "restOf", desc := "(II)I" } : Jvm.MethodName) ({ cls := "BallastTrain$Train", name := "restOf", desc := "(II)I" } : Jvm.MethodName)) ∈ tb := tb_mem 457 (by decide +kernel) rfl
theorem tw_458 : (Jvm.Cond.code ({ cls := "BallastTrain$Train", name := "restOf", desc := "(II)I" } : Jvm.MethodName) prog_7_method_7_code (3 : Nat) (Option.some Jvm.ClassFile.FieldType.int)) ∈ tb := tb_mem 458 (by decide +kernel) rfl
theorem tw_459 : (Jvm.Cond.methodLink "BallastTrainLaw" (57 : Nat) ({ cls := "BallastTrain", name := "doorOf", desc := "(III)I" } : Jvm.MethodName)) ∈ tb := tb_mem 459 (by decide +kernel) rfl
theorem tw_460 : (Jvm.Cond.instanceMethod ({ cls := "BallastTrain", name := "doorOf", desc := "(III)I" } : Jvm.MethodName)) ∈ tb := tb_mem 460 (by decide +kernel) rfl
theorem tw_461 : (Jvm.Cond.selects "BallastTrain" ({ cls := "BallastTrain", name := "doorOf", desc := "(III)I" } : Jvm.MethodName) ({ cls := "BallastTrain", name := "doorOf", desc := "(III)I" } : Jvm.MethodName)) ∈ tb := tb_mem 461 (by decide +kernel) rfl
theorem tw_462 : (Jvm.Cond.code ({ cls := "BallastTrain", name := "doorOf", desc := "(III)I" } : Jvm.MethodName) prog_1_method_16_code (4 : Nat) (Option.some Jvm.ClassFile.FieldType.int)) ∈ tb := tb_mem 462 (by decide +kernel) rfl
theorem tw_463 : (Jvm.Cond.methodLink "BallastTrain" (177 : Nat) ({ cls := "BallastTrain$Train", name := "restOf", desc := "(II)I" } : Jvm.MethodName)) ∈ tb := tb_mem 463 (by decide +kernel) rfl
theorem tw_464 : (Jvm.Cond.methodLink "BallastTrainLaw" (65 : Nat) ({ cls := "BallastTrain", name := "count", desc := "(I)I" } : Jvm.MethodName)) ∈ tb := tb_mem 464 (by decide +kernel) rfl
theorem tw_465 : (Jvm.Cond.instanceMethod ({ cls := "BallastTrain", name := "count", desc := "(I)I" } : Jvm.MethodName)) ∈ tb := tb_mem 465 (by decide +kernel) rfl
theorem tw_466 : (Jvm.Cond.selects "BallastTrain" ({ cls := "BallastTrain", name := "count", desc := "(I)I" } : Jvm.MethodName) ({ cls := "BallastTrain", name := "count", desc := "(I)I" } : Jvm.MethodName)) ∈ tb := tb_mem 466 (by decide +kernel) rfl
theorem tw_467 : (Jvm.Cond.code ({ cls := "BallastTrain", name := "count", desc := "(I)I" } : Jvm.MethodName) prog_1_method_23_code (2 : Nat) (Option.some Jvm.ClassFile.FieldType.int)) ∈ tb := tb_mem 467 (by decide +kernel) rfl
theorem tw_468 : (Jvm.Cond.methodLink "BallastTrain" (69 : Nat) ({ cls := "BallastTrain$Train", name := "units", desc := "()I" } : Jvm.MethodName)) ∈ tb := tb_mem 468 (by decide +kernel) rfl
theorem tw_469 : (Jvm.Cond.instanceMethod ({ cls := "BallastTrain$Train", name := "units", desc := "()I" } : Jvm.MethodName)) ∈ tb := tb_mem 469 (by decide +kernel) rfl
theorem tw_470 : (Jvm.Cond.selects "BallastTrain$Train" ({ cls := "BallastTrain$Train", name := "units", desc := "()I" } : Jvm.MethodName) ({ cls := "BallastTrain$Train", name := "units", desc := "()I" } : Jvm.MethodName)) ∈ tb := tb_mem 470 (by decide +kernel) rfl
theorem tw_471 : (Jvm.Cond.code ({ cls := "BallastTrain$Train", name := "units", desc := "()I" } : Jvm.MethodName) prog_7_method_9_code (1 : Nat) (Option.some Jvm.ClassFile.FieldType.int)) ∈ tb := tb_mem 471 (by decide +kernel) rfl
theorem tw_473 : (Jvm.Cond.static ({ cls := "BallastTrain", name := "sum", desc := "([I)I" } : Jvm.MethodName)) ∈ tb := tb_mem 473 (by decide +kernel) rfl
theorem tw_474 : (Jvm.Cond.code ({ cls := "BallastTrain", name := "sum", desc := "([I)I" } : Jvm.MethodName) prog_1_method_32_code (6 : Nat) (Option.some Jvm.ClassFile.FieldType.int)) ∈ tb := tb_mem 474 (by decide +kernel) rfl
theorem tw_475 : (Jvm.Cond.methodLink "BallastTrain" (229 : Nat) ({ cls := "BallastTrain$Track", name := "units", desc := "()I" } : Jvm.MethodName)) ∈ tb := tb_mem 475 (by decide +kernel) rfl
theorem tw_476 : (Jvm.Cond.instanceMethod ({ cls := "BallastTrain$Track", name := "units", desc := "()I" } : Jvm.MethodName)) ∈ tb := tb_mem 476 (by decide +kernel) rfl
theorem tw_477 : (Jvm.Cond.selects "BallastTrain$Track" ({ cls := "BallastTrain$Track", name := "units", desc := "()I" } : Jvm.MethodName) ({ cls := "BallastTrain$Track", name := "units", desc := "()I" } : Jvm.MethodName)) ∈ tb := tb_mem 477 (by decide +kernel) rfl
theorem tw_478 : (Jvm.Cond.code ({ cls := "BallastTrain$Track", name := "units", desc := "()I" } : Jvm.MethodName) prog_6_method_7_code (1 : Nat) (Option.some Jvm.ClassFile.FieldType.int)) ∈ tb := tb_mem 478 (by decide +kernel) rfl
theorem tw_480 : (Jvm.Cond.methodLink "BallastTrainLaw" (98 : Nat) ({ cls := "BallastTrainLaw", name := "cell", desc := "([II)I" } : Jvm.MethodName)) ∈ tb := tb_mem 480 (by decide +kernel) rfl
theorem tw_481 : (Jvm.Cond.static ({ cls := "BallastTrainLaw", name := "cell", desc := "([II)I" } : Jvm.MethodName)) ∈ tb := tb_mem 481 (by decide +kernel) rfl
theorem tw_482 : (Jvm.Cond.code ({ cls := "BallastTrainLaw", name := "cell", desc := "([II)I" } : Jvm.MethodName) method_2_code (2 : Nat) (Option.some Jvm.ClassFile.FieldType.int)) ∈ tb := tb_mem 482 (by decide +kernel) rfl
theorem tw_483 : (Jvm.Cond.constant "BallastTrainLaw" (7 : Nat) (795577677 : Int32)) ∈ tb := tb_mem 483 (by decide +kernel) rfl
theorem tw_484 : (Jvm.Cond.methodLink "BallastTrainLaw" (101 : Nat) ({ cls := "BallastTrainLaw", name := "low", desc := "(II)I" } : Jvm.MethodName)) ∈ tb := tb_mem 484 (by decide +kernel) rfl
theorem tw_485 : (Jvm.Cond.static ({ cls := "BallastTrainLaw", name := "low", desc := "(II)I" } : Jvm.MethodName)) ∈ tb := tb_mem 485 (by decide +kernel) rfl
theorem tw_486 : (Jvm.Cond.code ({ cls := "BallastTrainLaw", name := "low", desc := "(II)I" } : Jvm.MethodName) method_3_code (2 : Nat) (Option.some Jvm.ClassFile.FieldType.int)) ∈ tb := tb_mem 486 (by decide +kernel) rfl
theorem tw_487 : (Jvm.Cond.constant "BallastTrainLaw" (8 : Nat) (2147483647 : Int32)) ∈ tb := tb_mem 487 (by decide +kernel) rfl
theorem tw_488 : (Jvm.Cond.methodLink "BallastTrainLaw" (83 : Nat) ({ cls := "BallastTrainLaw", name := "begins", desc := "([I)V" } : Jvm.MethodName)) ∈ tb := tb_mem 488 (by decide +kernel) rfl
theorem tw_489 : (Jvm.Cond.static ({ cls := "BallastTrainLaw", name := "begins", desc := "([I)V" } : Jvm.MethodName)) ∈ tb := tb_mem 489 (by decide +kernel) rfl
theorem tw_490 : (Jvm.Cond.code ({ cls := "BallastTrainLaw", name := "begins", desc := "([I)V" } : Jvm.MethodName) method_4_code (1 : Nat) (Option.none : Option Jvm.ClassFile.FieldType)) ∈ tb := tb_mem 490 (by decide +kernel) rfl
theorem tw_491 : (Jvm.Cond.methodLink "BallastTrainLaw" (9 : Nat) ({ cls := "BallastTrainLaw", name := "couples", desc := "([II)V" } : Jvm.MethodName)) ∈ tb := tb_mem 491 (by decide +kernel) rfl
theorem tw_492 : (Jvm.Cond.static ({ cls := "BallastTrainLaw", name := "couples", desc := "([II)V" } : Jvm.MethodName)) ∈ tb := tb_mem 492 (by decide +kernel) rfl
theorem tw_493 : (Jvm.Cond.code ({ cls := "BallastTrainLaw", name := "couples", desc := "([II)V" } : Jvm.MethodName) method_5_code (3 : Nat) (Option.none : Option Jvm.ClassFile.FieldType)) ∈ tb := tb_mem 493 (by decide +kernel) rfl
theorem tw_494 : (Jvm.Cond.methodLink "BallastTrainLaw" (72 : Nat) ({ cls := "BallastTrainLaw", name := "inWagons", desc := "([I)I" } : Jvm.MethodName)) ∈ tb := tb_mem 494 (by decide +kernel) rfl
theorem tw_495 : (Jvm.Cond.static ({ cls := "BallastTrainLaw", name := "inWagons", desc := "([I)I" } : Jvm.MethodName)) ∈ tb := tb_mem 495 (by decide +kernel) rfl
theorem tw_496 : (Jvm.Cond.code ({ cls := "BallastTrainLaw", name := "inWagons", desc := "([I)I" } : Jvm.MethodName) method_12_code (1 : Nat) (Option.some Jvm.ClassFile.FieldType.int)) ∈ tb := tb_mem 496 (by decide +kernel) rfl
theorem tw_497 : (Jvm.Cond.methodLink "BallastTrainLaw" (68 : Nat) ({ cls := "BallastTrainLaw", name := "sum", desc := "([II)I" } : Jvm.MethodName)) ∈ tb := tb_mem 497 (by decide +kernel) rfl
theorem tw_498 : (Jvm.Cond.static ({ cls := "BallastTrainLaw", name := "sum", desc := "([II)I" } : Jvm.MethodName)) ∈ tb := tb_mem 498 (by decide +kernel) rfl
theorem tw_499 : (Jvm.Cond.code ({ cls := "BallastTrainLaw", name := "sum", desc := "([II)I" } : Jvm.MethodName) method_13_code (4 : Nat) (Option.some Jvm.ClassFile.FieldType.int)) ∈ tb := tb_mem 499 (by decide +kernel) rfl
theorem tw_500 : (Jvm.Cond.methodLink "BallastTrainLaw" (29 : Nat) ({ cls := "BallastTrainLaw", name := "height", desc := "([III)I" } : Jvm.MethodName)) ∈ tb := tb_mem 500 (by decide +kernel) rfl
theorem tw_501 : (Jvm.Cond.static ({ cls := "BallastTrainLaw", name := "height", desc := "([III)I" } : Jvm.MethodName)) ∈ tb := tb_mem 501 (by decide +kernel) rfl
theorem tw_502 : (Jvm.Cond.code ({ cls := "BallastTrainLaw", name := "height", desc := "([III)I" } : Jvm.MethodName) method_6_code (3 : Nat) (Option.some Jvm.ClassFile.FieldType.int)) ∈ tb := tb_mem 502 (by decide +kernel) rfl
theorem tw_503 : (Jvm.Cond.methodLink "BallastTrainLaw" (108 : Nat) ({ cls := "BallastTrainLaw", name := "sets", desc := "(LBallastTrain;[III)Z" } : Jvm.MethodName)) ∈ tb := tb_mem 503 (by decide +kernel) rfl
theorem tw_504 : (Jvm.Cond.static ({ cls := "BallastTrainLaw", name := "sets", desc := "(LBallastTrain;[III)Z" } : Jvm.MethodName)) ∈ tb := tb_mem 504 (by decide +kernel) rfl
theorem tw_505 : (Jvm.Cond.code ({ cls := "BallastTrainLaw", name := "sets", desc := "(LBallastTrain;[III)Z" } : Jvm.MethodName) method_15_code (5 : Nat) (Option.some Jvm.ClassFile.FieldType.boolean)) ∈ tb := tb_mem 505 (by decide +kernel) rfl
theorem tw_506 : (Jvm.Cond.methodLink "BallastTrainLaw" (33 : Nat) ({ cls := "BallastTrain", name := "set", desc := "(II)I" } : Jvm.MethodName)) ∈ tb := tb_mem 506 (by decide +kernel) rfl
theorem tw_507 : (Jvm.Cond.instanceMethod ({ cls := "BallastTrain", name := "set", desc := "(II)I" } : Jvm.MethodName)) ∈ tb := tb_mem 507 (by decide +kernel) rfl
theorem tw_508 : (Jvm.Cond.selects "BallastTrain" ({ cls := "BallastTrain", name := "set", desc := "(II)I" } : Jvm.MethodName) ({ cls := "BallastTrain", name := "set", desc := "(II)I" } : Jvm.MethodName)) ∈ tb := tb_mem 508 (by decide +kernel) rfl
theorem tw_509 : (Jvm.Cond.code ({ cls := "BallastTrain", name := "set", desc := "(II)I" } : Jvm.MethodName) prog_1_method_5_code (4 : Nat) (Option.some Jvm.ClassFile.FieldType.int)) ∈ tb := tb_mem 509 (by decide +kernel) rfl
theorem tw_510 : (Jvm.Cond.fieldLink "BallastTrain" (51 : Nat) "BallastTrain" "LEAST_SETTING" "[I") ∈ tb := tb_mem 510 (by decide +kernel) rfl
theorem tw_512 : (Jvm.Cond.fieldLink "BallastTrain" (55 : Nat) "BallastTrain" "MOST_SETTING" "[I") ∈ tb := tb_mem 512 (by decide +kernel) rfl
theorem tw_514 : (Jvm.Cond.methodLink "BallastTrainLaw" (104 : Nat) ({ cls := "BallastTrainLaw", name := "loads", desc := "(LBallastTrain;[III)Z" } : Jvm.MethodName)) ∈ tb := tb_mem 514 (by decide +kernel) rfl
theorem tw_515 : (Jvm.Cond.static ({ cls := "BallastTrainLaw", name := "loads", desc := "(LBallastTrain;[III)Z" } : Jvm.MethodName)) ∈ tb := tb_mem 515 (by decide +kernel) rfl
theorem tw_516 : (Jvm.Cond.code ({ cls := "BallastTrainLaw", name := "loads", desc := "(LBallastTrain;[III)Z" } : Jvm.MethodName) method_16_code (4 : Nat) (Option.some Jvm.ClassFile.FieldType.boolean)) ∈ tb := tb_mem 516 (by decide +kernel) rfl
theorem tw_517 : (Jvm.Cond.methodLink "BallastTrainLaw" (122 : Nat) ({ cls := "BallastTrainLaw", name := "doors", desc := "(LBallastTrain;[IIII)Z" } : Jvm.MethodName)) ∈ tb := tb_mem 517 (by decide +kernel) rfl
theorem tw_518 : (Jvm.Cond.static ({ cls := "BallastTrainLaw", name := "doors", desc := "(LBallastTrain;[IIII)Z" } : Jvm.MethodName)) ∈ tb := tb_mem 518 (by decide +kernel) rfl
theorem tw_519 : (Jvm.Cond.code ({ cls := "BallastTrainLaw", name := "doors", desc := "(LBallastTrain;[IIII)Z" } : Jvm.MethodName) method_17_code (6 : Nat) (Option.some Jvm.ClassFile.FieldType.boolean)) ∈ tb := tb_mem 519 (by decide +kernel) rfl
theorem tw_520 : (Jvm.Cond.methodLink "BallastTrainLaw" (15 : Nat) ({ cls := "BallastTrainLaw", name := "moves", desc := "([IIII)V" } : Jvm.MethodName)) ∈ tb := tb_mem 520 (by decide +kernel) rfl
theorem tw_521 : (Jvm.Cond.static ({ cls := "BallastTrainLaw", name := "moves", desc := "([IIII)V" } : Jvm.MethodName)) ∈ tb := tb_mem 521 (by decide +kernel) rfl
theorem tw_522 : (Jvm.Cond.code ({ cls := "BallastTrainLaw", name := "moves", desc := "([IIII)V" } : Jvm.MethodName) method_8_code (6 : Nat) (Option.none : Option Jvm.ClassFile.FieldType)) ∈ tb := tb_mem 522 (by decide +kernel) rfl
theorem tw_523 : (Jvm.Cond.methodLink "BallastTrainLaw" (119 : Nat) ({ cls := "BallastTrainLaw", name := "wishes", desc := "(LBallastTrain;[II)Z" } : Jvm.MethodName)) ∈ tb := tb_mem 523 (by decide +kernel) rfl
theorem tw_524 : (Jvm.Cond.static ({ cls := "BallastTrainLaw", name := "wishes", desc := "(LBallastTrain;[II)Z" } : Jvm.MethodName)) ∈ tb := tb_mem 524 (by decide +kernel) rfl
theorem tw_525 : (Jvm.Cond.code ({ cls := "BallastTrainLaw", name := "wishes", desc := "(LBallastTrain;[II)Z" } : Jvm.MethodName) method_18_code (4 : Nat) (Option.some Jvm.ClassFile.FieldType.boolean)) ∈ tb := tb_mem 525 (by decide +kernel) rfl
theorem tw_526 : (Jvm.Cond.methodLink "BallastTrainLaw" (46 : Nat) ({ cls := "BallastTrain", name := "wish", desc := "(I)I" } : Jvm.MethodName)) ∈ tb := tb_mem 526 (by decide +kernel) rfl
theorem tw_527 : (Jvm.Cond.instanceMethod ({ cls := "BallastTrain", name := "wish", desc := "(I)I" } : Jvm.MethodName)) ∈ tb := tb_mem 527 (by decide +kernel) rfl
theorem tw_528 : (Jvm.Cond.selects "BallastTrain" ({ cls := "BallastTrain", name := "wish", desc := "(I)I" } : Jvm.MethodName) ({ cls := "BallastTrain", name := "wish", desc := "(I)I" } : Jvm.MethodName)) ∈ tb := tb_mem 528 (by decide +kernel) rfl
theorem tw_529 : (Jvm.Cond.code ({ cls := "BallastTrain", name := "wish", desc := "(I)I" } : Jvm.MethodName) prog_1_method_9_code (3 : Nat) (Option.some Jvm.ClassFile.FieldType.int)) ∈ tb := tb_mem 529 (by decide +kernel) rfl
theorem tw_530 : (Jvm.Cond.methodLink "BallastTrainLaw" (126 : Nat) ({ cls := "BallastTrainLaw", name := "passes", desc := "(LBallastTrain;[I[I[II)Z" } : Jvm.MethodName)) ∈ tb := tb_mem 530 (by decide +kernel) rfl
theorem tw_531 : (Jvm.Cond.static ({ cls := "BallastTrainLaw", name := "passes", desc := "(LBallastTrain;[I[I[II)Z" } : Jvm.MethodName)) ∈ tb := tb_mem 531 (by decide +kernel) rfl
theorem tw_532 : (Jvm.Cond.code ({ cls := "BallastTrainLaw", name := "passes", desc := "(LBallastTrain;[I[I[II)Z" } : Jvm.MethodName) method_19_code (6 : Nat) (Option.some Jvm.ClassFile.FieldType.boolean)) ∈ tb := tb_mem 532 (by decide +kernel) rfl
theorem tw_533 : (Jvm.Cond.methodLink "BallastTrainLaw" (50 : Nat) ({ cls := "BallastTrainLaw", name := "second", desc := "([I[I[I)V" } : Jvm.MethodName)) ∈ tb := tb_mem 533 (by decide +kernel) rfl
theorem tw_534 : (Jvm.Cond.static ({ cls := "BallastTrainLaw", name := "second", desc := "([I[I[I)V" } : Jvm.MethodName)) ∈ tb := tb_mem 534 (by decide +kernel) rfl
theorem tw_535 : (Jvm.Cond.code ({ cls := "BallastTrainLaw", name := "second", desc := "([I[I[I)V" } : Jvm.MethodName) method_11_code (7 : Nat) (Option.none : Option Jvm.ClassFile.FieldType)) ∈ tb := tb_mem 535 (by decide +kernel) rfl
theorem tw_536 : (Jvm.Cond.methodLink "BallastTrainLaw" (22 : Nat) ({ cls := "BallastTrainLaw", name := "orders", desc := "([I[I)V" } : Jvm.MethodName)) ∈ tb := tb_mem 536 (by decide +kernel) rfl
theorem tw_537 : (Jvm.Cond.static ({ cls := "BallastTrainLaw", name := "orders", desc := "([I[I)V" } : Jvm.MethodName)) ∈ tb := tb_mem 537 (by decide +kernel) rfl
theorem tw_538 : (Jvm.Cond.code ({ cls := "BallastTrainLaw", name := "orders", desc := "([I[I)V" } : Jvm.MethodName) method_10_code (6 : Nat) (Option.none : Option Jvm.ClassFile.FieldType)) ∈ tb := tb_mem 538 (by decide +kernel) rfl
theorem tw_539 : (Jvm.Cond.methodLink "BallastTrainLaw" (19 : Nat) ({ cls := "BallastTrainLaw", name := "drops", desc := "([II)V" } : Jvm.MethodName)) ∈ tb := tb_mem 539 (by decide +kernel) rfl
theorem tw_540 : (Jvm.Cond.static ({ cls := "BallastTrainLaw", name := "drops", desc := "([II)V" } : Jvm.MethodName)) ∈ tb := tb_mem 540 (by decide +kernel) rfl
theorem tw_541 : (Jvm.Cond.code ({ cls := "BallastTrainLaw", name := "drops", desc := "([II)V" } : Jvm.MethodName) method_9_code (3 : Nat) (Option.none : Option Jvm.ClassFile.FieldType)) ∈ tb := tb_mem 541 (by decide +kernel) rfl
theorem tw_542 : (Jvm.Cond.methodLink "BallastTrainLaw" (26 : Nat) ({ cls := "BallastTrainLaw", name := "comes", desc := "([IIII)V" } : Jvm.MethodName)) ∈ tb := tb_mem 542 (by decide +kernel) rfl
theorem tw_543 : (Jvm.Cond.static ({ cls := "BallastTrainLaw", name := "comes", desc := "([IIII)V" } : Jvm.MethodName)) ∈ tb := tb_mem 543 (by decide +kernel) rfl
theorem tw_544 : (Jvm.Cond.code ({ cls := "BallastTrainLaw", name := "comes", desc := "([IIII)V" } : Jvm.MethodName) method_7_code (4 : Nat) (Option.none : Option Jvm.ClassFile.FieldType)) ∈ tb := tb_mem 544 (by decide +kernel) rfl
theorem tw_545 : (Jvm.Cond.methodLink "BallastTrainLaw" (94 : Nat) ({ cls := "BallastTrainLaw", name := "isTold", desc := "(LBallastTrain;[I[I[I)Z" } : Jvm.MethodName)) ∈ tb := tb_mem 545 (by decide +kernel) rfl
theorem tw_546 : (Jvm.Cond.static ({ cls := "BallastTrainLaw", name := "isTold", desc := "(LBallastTrain;[I[I[I)Z" } : Jvm.MethodName)) ∈ tb := tb_mem 546 (by decide +kernel) rfl
theorem tw_547 : (Jvm.Cond.code ({ cls := "BallastTrainLaw", name := "isTold", desc := "(LBallastTrain;[I[I[I)Z" } : Jvm.MethodName) method_20_code (8 : Nat) (Option.some Jvm.ClassFile.FieldType.boolean)) ∈ tb := tb_mem 547 (by decide +kernel) rfl
theorem tw_548 : (Jvm.Cond.methodLink "BallastTrainLaw" (63 : Nat) ({ cls := "BallastTrain", name := "height", desc := "(II)I" } : Jvm.MethodName)) ∈ tb := tb_mem 548 (by decide +kernel) rfl
theorem tw_549 : (Jvm.Cond.instanceMethod ({ cls := "BallastTrain", name := "height", desc := "(II)I" } : Jvm.MethodName)) ∈ tb := tb_mem 549 (by decide +kernel) rfl
theorem tw_550 : (Jvm.Cond.selects "BallastTrain" ({ cls := "BallastTrain", name := "height", desc := "(II)I" } : Jvm.MethodName) ({ cls := "BallastTrain", name := "height", desc := "(II)I" } : Jvm.MethodName)) ∈ tb := tb_mem 550 (by decide +kernel) rfl
theorem tw_551 : (Jvm.Cond.code ({ cls := "BallastTrain", name := "height", desc := "(II)I" } : Jvm.MethodName) prog_1_method_17_code (3 : Nat) (Option.some Jvm.ClassFile.FieldType.int)) ∈ tb := tb_mem 551 (by decide +kernel) rfl
theorem tw_552 : (Jvm.Cond.methodLink "BallastTrain" (139 : Nat) ({ cls := "BallastTrain$Track", name := "has", desc := "(II)Z" } : Jvm.MethodName)) ∈ tb := tb_mem 552 (by decide +kernel) rfl
theorem tw_553 : (Jvm.Cond.methodLink "BallastTrain" (148 : Nat) ({ cls := "BallastTrain$Track", name := "heightAt", desc := "(II)I" } : Jvm.MethodName)) ∈ tb := tb_mem 553 (by decide +kernel) rfl
theorem tw_554 : (Jvm.Cond.instanceMethod ({ cls := "BallastTrain$Track", name := "heightAt", desc := "(II)I" } : Jvm.MethodName)) ∈ tb := tb_mem 554 (by decide +kernel) rfl
theorem tw_555 : (Jvm.Cond.selects "BallastTrain$Track" ({ cls := "BallastTrain$Track", name := "heightAt", desc := "(II)I" } : Jvm.MethodName) ({ cls := "BallastTrain$Track", name := "heightAt", desc := "(II)I" } : Jvm.MethodName)) ∈ tb := tb_mem 555 (by decide +kernel) rfl
theorem tw_556 : (Jvm.Cond.code ({ cls := "BallastTrain$Track", name := "heightAt", desc := "(II)I" } : Jvm.MethodName) prog_6_method_3_code (3 : Nat) (Option.some Jvm.ClassFile.FieldType.int)) ∈ tb := tb_mem 556 (by decide +kernel) rfl
theorem tw_557 : (Jvm.Cond.methodLink "BallastTrainLaw" (115 : Nat) ({ cls := "BallastTrainLaw", name := "scrapes", desc := "(LBallastTrain;[I[IIII)Z" } : Jvm.MethodName)) ∈ tb := tb_mem 557 (by decide +kernel) rfl
theorem tw_558 : (Jvm.Cond.static ({ cls := "BallastTrainLaw", name := "scrapes", desc := "(LBallastTrain;[I[IIII)Z" } : Jvm.MethodName)) ∈ tb := tb_mem 558 (by decide +kernel) rfl
theorem tw_559 : (Jvm.Cond.code ({ cls := "BallastTrainLaw", name := "scrapes", desc := "(LBallastTrain;[I[IIII)Z" } : Jvm.MethodName) method_21_code (7 : Nat) (Option.some Jvm.ClassFile.FieldType.boolean)) ∈ tb := tb_mem 559 (by decide +kernel) rfl
theorem tw_560 : (Jvm.Cond.methodLink "BallastTrainLaw" (76 : Nat) ({ cls := "BallastTrain", name := "scrape", desc := "(III)I" } : Jvm.MethodName)) ∈ tb := tb_mem 560 (by decide +kernel) rfl
theorem tw_561 : (Jvm.Cond.instanceMethod ({ cls := "BallastTrain", name := "scrape", desc := "(III)I" } : Jvm.MethodName)) ∈ tb := tb_mem 561 (by decide +kernel) rfl
theorem tw_562 : (Jvm.Cond.selects "BallastTrain" ({ cls := "BallastTrain", name := "scrape", desc := "(III)I" } : Jvm.MethodName) ({ cls := "BallastTrain", name := "scrape", desc := "(III)I" } : Jvm.MethodName)) ∈ tb := tb_mem 562 (by decide +kernel) rfl
theorem tw_563 : (Jvm.Cond.code ({ cls := "BallastTrain", name := "scrape", desc := "(III)I" } : Jvm.MethodName) prog_1_method_13_code (5 : Nat) (Option.some Jvm.ClassFile.FieldType.int)) ∈ tb := tb_mem 563 (by decide +kernel) rfl
theorem tw_564 : (Jvm.Cond.methodLink "BallastTrain" (156 : Nat) ({ cls := "BallastTrain$Track", name := "add", desc := "(III)V" } : Jvm.MethodName)) ∈ tb := tb_mem 564 (by decide +kernel) rfl
theorem tw_565 : (Jvm.Cond.methodLink "BallastTrainLaw" (111 : Nat) ({ cls := "BallastTrainLaw", name := "setsTrain", desc := "(LBallastTrain;[II)Z" } : Jvm.MethodName)) ∈ tb := tb_mem 565 (by decide +kernel) rfl
theorem tw_566 : (Jvm.Cond.static ({ cls := "BallastTrainLaw", name := "setsTrain", desc := "(LBallastTrain;[II)Z" } : Jvm.MethodName)) ∈ tb := tb_mem 566 (by decide +kernel) rfl
theorem tw_567 : (Jvm.Cond.code ({ cls := "BallastTrainLaw", name := "setsTrain", desc := "(LBallastTrain;[II)Z" } : Jvm.MethodName) method_22_code (4 : Nat) (Option.some Jvm.ClassFile.FieldType.boolean)) ∈ tb := tb_mem 567 (by decide +kernel) rfl
theorem tw_568 : (Jvm.Cond.methodLink "BallastTrainLaw" (79 : Nat) ({ cls := "BallastTrain", name := "setTrain", desc := "(I)I" } : Jvm.MethodName)) ∈ tb := tb_mem 568 (by decide +kernel) rfl
theorem tw_569 : (Jvm.Cond.instanceMethod ({ cls := "BallastTrain", name := "setTrain", desc := "(I)I" } : Jvm.MethodName)) ∈ tb := tb_mem 569 (by decide +kernel) rfl
theorem tw_570 : (Jvm.Cond.selects "BallastTrain" ({ cls := "BallastTrain", name := "setTrain", desc := "(I)I" } : Jvm.MethodName) ({ cls := "BallastTrain", name := "setTrain", desc := "(I)I" } : Jvm.MethodName)) ∈ tb := tb_mem 570 (by decide +kernel) rfl
theorem tw_571 : (Jvm.Cond.code ({ cls := "BallastTrain", name := "setTrain", desc := "(I)I" } : Jvm.MethodName) prog_1_method_6_code (3 : Nat) (Option.some Jvm.ClassFile.FieldType.int)) ∈ tb := tb_mem 571 (by decide +kernel) rfl
theorem tw_572 : (Jvm.Cond.methodLink "BallastTrain" (75 : Nat) ({ cls := "BallastTrain$Train", name := "replace", desc := "(I)V" } : Jvm.MethodName)) ∈ tb := tb_mem 572 (by decide +kernel) rfl
theorem tw_573 : (Jvm.Cond.instanceMethod ({ cls := "BallastTrain$Train", name := "replace", desc := "(I)V" } : Jvm.MethodName)) ∈ tb := tb_mem 573 (by decide +kernel) rfl
theorem tw_574 : (Jvm.Cond.selects "BallastTrain$Train" ({ cls := "BallastTrain$Train", name := "replace", desc := "(I)V" } : Jvm.MethodName) ({ cls := "BallastTrain$Train", name := "replace", desc := "(I)V" } : Jvm.MethodName)) ∈ tb := tb_mem 574 (by decide +kernel) rfl
theorem tw_575 : (Jvm.Cond.code ({ cls := "BallastTrain$Train", name := "replace", desc := "(I)V" } : Jvm.MethodName) prog_7_method_2_code (2 : Nat) (Option.none : Option Jvm.ClassFile.FieldType)) ∈ tb := tb_mem 575 (by decide +kernel) rfl
theorem tw_584 : (Jvm.Cond.selects "[Ljava/lang/Object;" ({ cls := "java/lang/Object", name := "getClass", desc := "()Ljava/lang/Class;" } : Jvm.MethodName) ({ cls := "java/lang/Object", name := "getClass", desc := "()Ljava/lang/Class;" } : Jvm.MethodName)) ∈ tb := tb_mem 584 (by decide +kernel) rfl
theorem inb_Jx4a65c : ∀ w ∈ u_ws RJx4a65c TJx4a65c 3, w ∈ tb := by decide +kernel
theorem inb_X0 : ∀ w ∈ u_ws RX0 TX0 3, w ∈ tb := by decide +kernel
theorem inb_X2 : ∀ w ∈ u_ws RX2 TX2 9, w ∈ tb := by decide +kernel
theorem inb_X3 : ∀ w ∈ u_ws RX3 TX3 5, w ∈ tb := by decide +kernel
theorem inb_X4 : ∀ w ∈ u_ws RX4 TX4 1, w ∈ tb := by decide +kernel
theorem inb_X5 : ∀ w ∈ u_ws RX5 TX5 8, w ∈ tb := by decide +kernel
theorem inb_X6 : ∀ w ∈ u_ws RX6 TX6 4, w ∈ tb := by decide +kernel
theorem oi_X0_3 : Cond.methodLink "BallastTrain$History" 3 objectInit ∈ tb ∧ Cond.instanceMethod objectInit ∈ tb ∧ Cond.code objectInit ⟨#[0xb1]⟩ 1 none ∈ tb := ⟨tw_185, tw_29, by decide +kernel⟩
theorem cl_X0_9 : Cond.classLink "BallastTrain$History" 9 "BallastTrain$State" ∈ tb := tw_186
theorem fp_X0_11 : FP "BallastTrain$History" 11 1 0 true (.array (.object "BallastTrain$State")) := ⟨RX0, "BallastTrain$History", TX0, 3, tyX0, rfl, inb_X0, by decide, tw_189, Or.inl rfl, tyX0_ok, nmX0, rfl, fun _ => rfl, rfl⟩
theorem fp_X0_17 : FP "BallastTrain$History" 17 1 1 false .int := ⟨RX0, "BallastTrain$History", TX0, 3, tyX0, rfl, inb_X0, by decide, tw_190, Or.inl rfl, tyX0_ok, nmX0, rfl, (fun h => by cases h), rfl⟩
theorem fp_X0_21 : FP "BallastTrain$History" 21 1 2 false .int := ⟨RX0, "BallastTrain$History", TX0, 3, tyX0, rfl, inb_X0, by decide, tw_191, Or.inl rfl, tyX0_ok, nmX0, rfl, (fun h => by cases h), rfl⟩
theorem fd_X0_11 : FD "BallastTrain$History" 11 1 0 := ⟨RX0, "BallastTrain$History", TX0, 3, rfl, inb_X0, by decide, tw_189, Or.inl rfl⟩
theorem nd_X0_9 : ND "BallastTrain$History" 9 2 9 [.null, .null, .null, .null, .int 0, .int 0, .int 0, .int 0, .int 0] := ⟨RX2, TX2, tyX2, rfl, inb_X2, tyX2_ok, tw_186, tw_82, tw_13, fun j hj => by rcases (show j = 0 ∨ j = 1 ∨ j = 2 ∨ j = 3 ∨ j = 4 ∨ j = 5 ∨ j = 6 ∨ j = 7 ∨ j = 8 by omega) with rfl | rfl | rfl | rfl | rfl | rfl | rfl | rfl | rfl <;> rfl⟩
theorem min_X0_24 : MIN "BallastTrain$History" 24 yX2_init cX2_init 1 0 := ⟨⟨by decide +kernel, tw_84, rfl, tw_13, tw_85⟩, by decide, by decide, by decide +kernel⟩
theorem fd_X0_17 : FD "BallastTrain$History" 17 1 1 := ⟨RX0, "BallastTrain$History", TX0, 3, rfl, inb_X0, by decide, tw_190, Or.inl rfl⟩
theorem ms_X0_25 : MS "BallastTrain$History" 25 yJ9_floorMod_7cf53 cJ9_floorMod_7cf53 3 (some .int) 2 := ⟨⟨tw_228, tw_229, tw_18, tw_230⟩, by decide, by decide, by decide +kernel⟩
theorem mv_X0_31 : MV "BallastTrain$History" 31 yX2_copyFrom cX2_copyFrom 2 none 1 := ⟨⟨tw_231, tw_232, tw_233, tw_13, tw_234⟩, by decide, by decide, by decide +kernel⟩
theorem fd_X0_21 : FD "BallastTrain$History" 21 1 2 := ⟨RX0, "BallastTrain$History", TX0, 3, rfl, inb_X0, by decide, tw_191, Or.inl rfl⟩
theorem mm_X0_35 : Cond.methodLink "BallastTrain$History" 35 Lib.Math.min.name ∈ tb ∧ Cond.static Lib.Math.min.name ∈ tb ∧ Cond.initialized "java/lang/Math" ∈ tb ∧ Cond.code Lib.Math.min.name Lib.Math.min.code 2 (some .int) ∈ tb := ⟨tw_325, tw_239, tw_18, by decide +kernel⟩
theorem fd_X1_27 : FD "BallastTrain$Order" 27 5 1 := ⟨RX5, "BallastTrain$Train", TX5, 8, rfl, inb_X5, by decide, tw_111, Or.inl rfl⟩
theorem mv_X1_32 : MV "BallastTrain$Order" 32 yX5_hasDoor cX5_hasDoor 3 (some .boolean) 2 := ⟨⟨tw_384, tw_331, tw_332, tw_15, tw_333⟩, by decide, by decide, by decide +kernel⟩
theorem mv_X1_36 : MV "BallastTrain$Order" 36 yX5_cellBelow cX5_cellBelow 2 (some .int) 1 := ⟨⟨tw_385, tw_386, tw_387, tw_15, tw_388⟩, by decide, by decide, by decide +kernel⟩
theorem fp_X1_40 : FP "BallastTrain$Order" 40 5 3 false .int := ⟨RX5, "BallastTrain$Train", TX5, 8, tyX5, rfl, inb_X5, by decide, tw_116, Or.inl rfl, tyX5_ok, nmX5, rfl, (fun h => by cases h), rfl⟩
theorem mv_X1_43 : MV "BallastTrain$Order" 43 yX5_openDoor cX5_openDoor 4 none 3 := ⟨⟨tw_393, tw_344, tw_345, tw_15, tw_346⟩, by decide, by decide, by decide +kernel⟩
theorem mv_X1_47 : MV "BallastTrain$Order" 47 yX5_closeDoor cX5_closeDoor 4 none 3 := ⟨⟨tw_394, tw_340, tw_341, tw_15, tw_342⟩, by decide, by decide, by decide +kernel⟩
theorem oi_X2_3 : Cond.methodLink "BallastTrain$State" 3 objectInit ∈ tb ∧ Cond.instanceMethod objectInit ∈ tb ∧ Cond.code objectInit ⟨#[0xb1]⟩ 1 none ∈ tb := ⟨tw_86, tw_29, by decide +kernel⟩
theorem fp_X2_9 : FP "BallastTrain$State" 9 2 0 true (.array .int) := ⟨RX2, "BallastTrain$State", TX2, 9, tyX2, rfl, inb_X2, by decide, tw_143, Or.inl rfl, tyX2_ok, nmX2, rfl, fun _ => rfl, rfl⟩
theorem nd_X2_15 : ND "BallastTrain$State" 15 4 1 [.null] := ⟨RX4, TX4, tyX4, rfl, inb_X4, tyX4_ok, tw_87, tw_88, tw_14, fun j hj => by rcases (show j = 0 by omega) with rfl <;> rfl⟩
theorem min_X2_17 : MIN "BallastTrain$State" 17 yX4_init cX4_init 1 0 := ⟨⟨by decide +kernel, tw_90, rfl, tw_14, tw_91⟩, by decide, by decide, by decide +kernel⟩
theorem fp_X2_18 : FP "BallastTrain$State" 18 2 1 true (.object "BallastTrain$Track") := ⟨RX2, "BallastTrain$State", TX2, 9, tyX2, rfl, inb_X2, by decide, tw_145, Or.inl rfl, tyX2_ok, nmX2, rfl, fun _ => rfl, rfl⟩
theorem nd_X2_22 : ND "BallastTrain$State" 22 5 8 [.int 0, .int 0, .int 0, .int 0, .null, .null, .null, .null] := ⟨RX5, TX5, tyX5, rfl, inb_X5, tyX5_ok, tw_98, tw_99, tw_15, fun j hj => by rcases (show j = 0 ∨ j = 1 ∨ j = 2 ∨ j = 3 ∨ j = 4 ∨ j = 5 ∨ j = 6 ∨ j = 7 by omega) with rfl | rfl | rfl | rfl | rfl | rfl | rfl | rfl <;> rfl⟩
theorem mi_X2_24 : MI "BallastTrain$State" 24 yX5_init cX5_init 1 0 := ⟨⟨tw_100, tw_101, rfl, tw_15, tw_102⟩, by decide, by decide, by decide +kernel⟩
theorem fp_X2_25 : FP "BallastTrain$State" 25 2 2 true (.object "BallastTrain$Train") := ⟨RX2, "BallastTrain$State", TX2, 9, tyX2, rfl, inb_X2, by decide, tw_147, Or.inl rfl, tyX2_ok, nmX2, rfl, fun _ => rfl, rfl⟩
theorem nd_X2_29 : ND "BallastTrain$State" 29 0 3 [.int 0, .null, .int 0] := ⟨RJx4a65c, TJx4a65c, tyJx4a65c, rfl, inb_Jx4a65c, tyJx4a65c_ok, tw_141, tw_38, tw_12, fun j hj => by rcases (show j = 0 ∨ j = 1 ∨ j = 2 by omega) with rfl | rfl | rfl <;> rfl⟩
theorem mi_X2_31 : MI "BallastTrain$State" 31 yJx4a65c_init_da8c8 cJx4a65c_init_da8c8 1 0 := ⟨⟨tw_142, tw_40, rfl, tw_12, tw_41⟩, by decide, by decide, by decide +kernel⟩
theorem fp_X2_32 : FP "BallastTrain$State" 32 2 3 true (.object "java/util/ArrayList") := ⟨RX2, "BallastTrain$State", TX2, 9, tyX2, rfl, inb_X2, by decide, tw_149, Or.inl rfl, tyX2_ok, nmX2, rfl, fun _ => rfl, rfl⟩
theorem fp_X2_36 : FP "BallastTrain$State" 36 2 4 false .int := ⟨RX2, "BallastTrain$State", TX2, 9, tyX2, rfl, inb_X2, by decide, tw_151, Or.inl rfl, tyX2_ok, nmX2, rfl, (fun h => by cases h), rfl⟩
theorem fp_X2_40 : FP "BallastTrain$State" 40 2 5 false .int := ⟨RX2, "BallastTrain$State", TX2, 9, tyX2, rfl, inb_X2, by decide, tw_153, Or.inl rfl, tyX2_ok, nmX2, rfl, (fun h => by cases h), rfl⟩
theorem fp_X2_43 : FP "BallastTrain$State" 43 2 6 false .int := ⟨RX2, "BallastTrain$State", TX2, 9, tyX2, rfl, inb_X2, by decide, tw_155, Or.inl rfl, tyX2_ok, nmX2, rfl, (fun h => by cases h), rfl⟩
theorem fp_X2_46 : FP "BallastTrain$State" 46 2 7 false .int := ⟨RX2, "BallastTrain$State", TX2, 9, tyX2, rfl, inb_X2, by decide, tw_157, Or.inl rfl, tyX2_ok, nmX2, rfl, (fun h => by cases h), rfl⟩
theorem fp_X2_49 : FP "BallastTrain$State" 49 2 8 false .int := ⟨RX2, "BallastTrain$State", TX2, 9, tyX2, rfl, inb_X2, by decide, tw_159, Or.inl rfl, tyX2_ok, nmX2, rfl, (fun h => by cases h), rfl⟩
theorem fd_X2_9 : FD "BallastTrain$State" 9 2 0 := ⟨RX2, "BallastTrain$State", TX2, 9, rfl, inb_X2, by decide, tw_143, Or.inl rfl⟩
theorem msn_X2_52 : MSN "BallastTrain$State" 52 yX6_copyRow cX6_copyRow 2 none 2 := ⟨⟨by decide +kernel, tw_236, tw_8, tw_237⟩, by decide, by decide, by decide +kernel⟩
theorem fd_X2_18 : FD "BallastTrain$State" 18 2 1 := ⟨RX2, "BallastTrain$State", TX2, 9, rfl, inb_X2, by decide, tw_145, Or.inl rfl⟩
theorem fd_X2_56 : FD "BallastTrain$State" 56 4 0 := ⟨RX4, "BallastTrain$Track", TX4, 1, rfl, inb_X4, by decide, tw_94, Or.inl rfl⟩
theorem fd_X2_25 : FD "BallastTrain$State" 25 2 2 := ⟨RX2, "BallastTrain$State", TX2, 9, rfl, inb_X2, by decide, tw_147, Or.inl rfl⟩
theorem mv_X2_59 : MV "BallastTrain$State" 59 yX5_copyFrom cX5_copyFrom 2 none 1 := ⟨⟨tw_244, tw_245, tw_246, tw_15, tw_247⟩, by decide, by decide, by decide +kernel⟩
theorem fd_X2_32 : FD "BallastTrain$State" 32 2 3 := ⟨RX2, "BallastTrain$State", TX2, 9, rfl, inb_X2, by decide, tw_149, Or.inl rfl⟩
theorem mv_X2_63 : MV "BallastTrain$State" 63 yJx4a65c_clear_da8c8 cJx4a65c_clear_da8c8 4 none 0 := ⟨⟨tw_249, tw_250, tw_251, tw_12, tw_252⟩, by decide, by decide, by decide +kernel⟩
theorem msn_X2_66 : MSN "BallastTrain$State" 66 yX6_addAll cX6_addAll 3 none 2 := ⟨⟨by decide +kernel, tw_254, tw_8, tw_255⟩, by decide, by decide, by decide +kernel⟩
theorem fd_X2_36 : FD "BallastTrain$State" 36 2 4 := ⟨RX2, "BallastTrain$State", TX2, 9, rfl, inb_X2, by decide, tw_151, Or.inl rfl⟩
theorem fd_X2_40 : FD "BallastTrain$State" 40 2 5 := ⟨RX2, "BallastTrain$State", TX2, 9, rfl, inb_X2, by decide, tw_153, Or.inl rfl⟩
theorem fd_X2_43 : FD "BallastTrain$State" 43 2 6 := ⟨RX2, "BallastTrain$State", TX2, 9, rfl, inb_X2, by decide, tw_155, Or.inl rfl⟩
theorem fd_X2_46 : FD "BallastTrain$State" 46 2 7 := ⟨RX2, "BallastTrain$State", TX2, 9, rfl, inb_X2, by decide, tw_157, Or.inl rfl⟩
theorem fd_X2_49 : FD "BallastTrain$State" 49 2 8 := ⟨RX2, "BallastTrain$State", TX2, 9, rfl, inb_X2, by decide, tw_159, Or.inl rfl⟩
theorem mv_X2_70 : MV "BallastTrain$State" 70 yX5_move cX5_move 1 none 0 := ⟨⟨tw_368, tw_369, tw_370, tw_15, tw_371⟩, by decide, by decide, by decide +kernel⟩
theorem mv_X2_73 : MV "BallastTrain$State" 73 yX2_carryOutOrders cX2_carryOutOrders 4 none 0 := ⟨⟨tw_373, tw_375, tw_4, tw_13, tw_376⟩, by decide, by decide, by decide +kernel⟩
theorem mv_X2_76 : MV "BallastTrain$State" 76 yX2_unload cX2_unload 3 none 0 := ⟨⟨tw_400, tw_402, tw_5, tw_13, tw_403⟩, by decide, by decide, by decide +kernel⟩
theorem mv_X2_79 : MV "BallastTrain$State" 79 yX4_slide cX4_slide 4 none 1 := ⟨⟨tw_421, tw_422, tw_423, tw_14, tw_424⟩, by decide, by decide, by decide +kernel⟩
theorem mv_X2_83 : MV "BallastTrain$State" 83 yX4_cutShoulders cX4_cutShoulders 5 (some .int) 1 := ⟨⟨tw_425, tw_426, tw_427, tw_14, tw_428⟩, by decide, by decide, by decide +kernel⟩
theorem mv_X2_87 : MV "BallastTrain$State" 87 yX5_closeFurther cX5_closeFurther 5 (some .int) 1 := ⟨⟨tw_429, tw_430, tw_431, tw_15, tw_432⟩, by decide, by decide, by decide +kernel⟩
theorem fd_X2_90 : FD "BallastTrain$State" 90 5 0 := ⟨RX5, "BallastTrain$Train", TX5, 8, rfl, inb_X5, by decide, tw_108, Or.inl rfl⟩
theorem mv_X2_93 : MV "BallastTrain$State" 93 yX5_cellBelow cX5_cellBelow 2 (some .int) 1 := ⟨⟨tw_404, tw_386, tw_387, tw_15, tw_388⟩, by decide, by decide, by decide +kernel⟩
theorem mv_X2_96 : MV "BallastTrain$State" 96 yX5_drop cX5_drop 4 (some .int) 2 := ⟨⟨tw_405, tw_406, tw_407, tw_15, tw_408⟩, by decide, by decide, by decide +kernel⟩
theorem mv_X2_100 : MV "BallastTrain$State" 100 yX2_land cX2_land 4 none 3 := ⟨⟨tw_409, tw_411, tw_6, tw_13, tw_412⟩, by decide, by decide, by decide +kernel⟩
theorem ms_X2_104 : MS "BallastTrain$State" 104 yX4_has cX4_has 2 (some .boolean) 2 := ⟨⟨tw_413, tw_414, tw_14, tw_415⟩, by decide, by decide, by decide +kernel⟩
theorem mv_X2_108 : MV "BallastTrain$State" 108 yX4_add cX4_add 4 none 3 := ⟨⟨tw_416, tw_417, tw_418, tw_14, tw_419⟩, by decide, by decide, by decide +kernel⟩
theorem mv_X2_111 : MV "BallastTrain$State" 111 yJx4a65c_size_8abf5 cJx4a65c_size_8abf5 1 (some .int) 0 := ⟨⟨tw_377, tw_257, tw_258, tw_12, tw_259⟩, by decide, by decide, by decide +kernel⟩
theorem mv_X2_115 : MV "BallastTrain$State" 115 yJx4a65c_get_915e3 cJx4a65c_get_915e3 2 (some (.object "java/lang/Object")) 1 := ⟨⟨tw_378, tw_261, tw_262, tw_12, tw_263⟩, by decide, by decide, by decide +kernel⟩
theorem cl_X2_119 : Cond.classLink "BallastTrain$State" 119 "BallastTrain$Order" ∈ tb := tw_379
theorem mv_X2_129 : MV "BallastTrain$State" 129 yJx4a65c_set_bcc79 cJx4a65c_set_bcc79 4 (some (.object "java/lang/Object")) 2 := ⟨⟨tw_395, tw_396, tw_397, tw_12, tw_398⟩, by decide, by decide, by decide +kernel⟩
theorem mv_X2_133 : MV "BallastTrain$State" 133 yJx4a65c_remove_915e3 cJx4a65c_remove_915e3 4 (some (.object "java/lang/Object")) 1 := ⟨⟨tw_399, tw_352, tw_353, tw_12, tw_354⟩, by decide, by decide, by decide +kernel⟩
theorem oi_X3_3 : Cond.methodLink "BallastTrain$Text" 3 objectInit ∈ tb ∧ Cond.instanceMethod objectInit ∈ tb ∧ Cond.code objectInit ⟨#[0xb1]⟩ 1 none ∈ tb := ⟨tw_36, tw_29, by decide +kernel⟩
theorem fp_X3_9 : FP "BallastTrain$Text" 9 3 0 true (.array .int) := ⟨RX3, "BallastTrain$Text", TX3, 5, tyX3, rfl, inb_X3, by decide, tw_64, Or.inl rfl, tyX3_ok, nmX3, rfl, fun _ => rfl, rfl⟩
theorem fp_X3_15 : FP "BallastTrain$Text" 15 3 1 false .int := ⟨RX3, "BallastTrain$Text", TX3, 5, tyX3, rfl, inb_X3, by decide, tw_65, Or.inl rfl, tyX3_ok, nmX3, rfl, (fun h => by cases h), rfl⟩
theorem nd_X3_19 : ND "BallastTrain$Text" 19 0 3 [.int 0, .null, .int 0] := ⟨RJx4a65c, TJx4a65c, tyJx4a65c, rfl, inb_Jx4a65c, tyJx4a65c_ok, tw_37, tw_38, tw_12, fun j hj => by rcases (show j = 0 ∨ j = 1 ∨ j = 2 by omega) with rfl | rfl | rfl <;> rfl⟩
theorem mi_X3_21 : MI "BallastTrain$Text" 21 yJx4a65c_init_da8c8 cJx4a65c_init_da8c8 1 0 := ⟨⟨tw_39, tw_40, rfl, tw_12, tw_41⟩, by decide, by decide, by decide +kernel⟩
theorem fp_X3_22 : FP "BallastTrain$Text" 22 3 2 true (.object "java/util/ArrayList") := ⟨RX3, "BallastTrain$Text", TX3, 5, tyX3, rfl, inb_X3, by decide, tw_67, Or.inl rfl, tyX3_ok, nmX3, rfl, fun _ => rfl, rfl⟩
theorem fp_X3_26 : FP "BallastTrain$Text" 26 3 3 false .int := ⟨RX3, "BallastTrain$Text", TX3, 5, tyX3, rfl, inb_X3, by decide, tw_68, Or.inl rfl, tyX3_ok, nmX3, rfl, (fun h => by cases h), rfl⟩
theorem fp_X3_29 : FP "BallastTrain$Text" 29 3 4 false .int := ⟨RX3, "BallastTrain$Text", TX3, 5, tyX3, rfl, inb_X3, by decide, tw_69, Or.inl rfl, tyX3_ok, nmX3, rfl, (fun h => by cases h), rfl⟩
theorem oi_X4_3 : Cond.methodLink "BallastTrain$Track" 3 objectInit ∈ tb ∧ Cond.instanceMethod objectInit ∈ tb ∧ Cond.code objectInit ⟨#[0xb1]⟩ 1 none ∈ tb := ⟨tw_92, tw_29, by decide +kernel⟩
theorem fp_X4_9 : FP "BallastTrain$Track" 9 4 0 true (.array .int) := ⟨RX4, "BallastTrain$Track", TX4, 1, tyX4, rfl, inb_X4, by decide, tw_93, Or.inl rfl, tyX4_ok, nmX4, rfl, fun _ => rfl, rfl⟩
theorem ms_X4_15 : MS "BallastTrain$Track" 15 yX4_has cX4_has 2 (some .boolean) 2 := ⟨⟨tw_420, tw_414, tw_14, tw_415⟩, by decide, by decide, by decide +kernel⟩
theorem fd_X4_9 : FD "BallastTrain$Track" 9 4 0 := ⟨RX4, "BallastTrain$Track", TX4, 1, rfl, inb_X4, by decide, tw_93, Or.inl rfl⟩
theorem msn_X4_19 : MSN "BallastTrain$Track" 19 yX6_sum cX6_sum 6 (some .int) 1 := ⟨⟨by decide +kernel, tw_473, tw_8, tw_474⟩, by decide, by decide, by decide +kernel⟩
theorem oi_X5_3 : Cond.methodLink "BallastTrain$Train" 3 objectInit ∈ tb ∧ Cond.instanceMethod objectInit ∈ tb ∧ Cond.code objectInit ⟨#[0xb1]⟩ 1 none ∈ tb := ⟨tw_103, tw_29, by decide +kernel⟩
theorem fp_X5_9 : FP "BallastTrain$Train" 9 5 0 false .int := ⟨RX5, "BallastTrain$Train", TX5, 8, tyX5, rfl, inb_X5, by decide, tw_107, Or.inl rfl, tyX5_ok, nmX5, rfl, (fun h => by cases h), rfl⟩
theorem fp_X5_15 : FP "BallastTrain$Train" 15 5 1 false .int := ⟨RX5, "BallastTrain$Train", TX5, 8, tyX5, rfl, inb_X5, by decide, tw_110, Or.inl rfl, tyX5_ok, nmX5, rfl, (fun h => by cases h), rfl⟩
theorem fp_X5_18 : FP "BallastTrain$Train" 18 5 2 false .int := ⟨RX5, "BallastTrain$Train", TX5, 8, tyX5, rfl, inb_X5, by decide, tw_113, Or.inl rfl, tyX5_ok, nmX5, rfl, (fun h => by cases h), rfl⟩
theorem fp_X5_21 : FP "BallastTrain$Train" 21 5 3 false .int := ⟨RX5, "BallastTrain$Train", TX5, 8, tyX5, rfl, inb_X5, by decide, tw_115, Or.inl rfl, tyX5_ok, nmX5, rfl, (fun h => by cases h), rfl⟩
theorem fp_X5_24 : FP "BallastTrain$Train" 24 5 4 true (.array .int) := ⟨RX5, "BallastTrain$Train", TX5, 8, tyX5, rfl, inb_X5, by decide, tw_118, Or.inl rfl, tyX5_ok, nmX5, rfl, fun _ => rfl, rfl⟩
theorem fp_X5_28 : FP "BallastTrain$Train" 28 5 5 true (.array .int) := ⟨RX5, "BallastTrain$Train", TX5, 8, tyX5, rfl, inb_X5, by decide, tw_120, Or.inl rfl, tyX5_ok, nmX5, rfl, fun _ => rfl, rfl⟩
theorem fp_X5_31 : FP "BallastTrain$Train" 31 5 6 true (.array .int) := ⟨RX5, "BallastTrain$Train", TX5, 8, tyX5, rfl, inb_X5, by decide, tw_122, Or.inl rfl, tyX5_ok, nmX5, rfl, fun _ => rfl, rfl⟩
theorem fp_X5_34 : FP "BallastTrain$Train" 34 5 7 true (.array .int) := ⟨RX5, "BallastTrain$Train", TX5, 8, tyX5, rfl, inb_X5, by decide, tw_123, Or.inl rfl, tyX5_ok, nmX5, rfl, fun _ => rfl, rfl⟩
theorem fd_X5_34 : FD "BallastTrain$Train" 34 5 7 := ⟨RX5, "BallastTrain$Train", TX5, 8, rfl, inb_X5, by decide, tw_123, Or.inl rfl⟩
theorem ms_X5_37 : MS "BallastTrain$Train" 37 yJ7_fill_53178 cJ7_fill_53178 4 none 2 := ⟨⟨tw_104, tw_105, tw_16, tw_106⟩, by decide, by decide, by decide +kernel⟩
theorem fd_X5_24 : FD "BallastTrain$Train" 24 5 4 := ⟨RX5, "BallastTrain$Train", TX5, 8, rfl, inb_X5, by decide, tw_118, Or.inl rfl⟩
theorem fd_X5_28 : FD "BallastTrain$Train" 28 5 5 := ⟨RX5, "BallastTrain$Train", TX5, 8, rfl, inb_X5, by decide, tw_120, Or.inl rfl⟩
theorem fd_X5_31 : FD "BallastTrain$Train" 31 5 6 := ⟨RX5, "BallastTrain$Train", TX5, 8, rfl, inb_X5, by decide, tw_122, Or.inl rfl⟩
theorem fd_X5_9 : FD "BallastTrain$Train" 9 5 0 := ⟨RX5, "BallastTrain$Train", TX5, 8, rfl, inb_X5, by decide, tw_107, Or.inl rfl⟩
theorem fd_X5_15 : FD "BallastTrain$Train" 15 5 1 := ⟨RX5, "BallastTrain$Train", TX5, 8, rfl, inb_X5, by decide, tw_110, Or.inl rfl⟩
theorem fd_X5_18 : FD "BallastTrain$Train" 18 5 2 := ⟨RX5, "BallastTrain$Train", TX5, 8, rfl, inb_X5, by decide, tw_113, Or.inl rfl⟩
theorem fd_X5_21 : FD "BallastTrain$Train" 21 5 3 := ⟨RX5, "BallastTrain$Train", TX5, 8, rfl, inb_X5, by decide, tw_115, Or.inl rfl⟩
theorem msn_X5_43 : MSN "BallastTrain$Train" 43 yX6_copyRow cX6_copyRow 2 none 2 := ⟨⟨by decide +kernel, tw_236, tw_8, tw_237⟩, by decide, by decide, by decide +kernel⟩
theorem mv_X5_47 : MV "BallastTrain$Train" 47 yX5_hasDoor cX5_hasDoor 3 (some .boolean) 2 := ⟨⟨tw_338, tw_331, tw_332, tw_15, tw_333⟩, by decide, by decide, by decide +kernel⟩
theorem msn_X5_51 : MSN "BallastTrain$Train" 51 yX6_sum cX6_sum 6 (some .int) 1 := ⟨⟨by decide +kernel, tw_473, tw_8, tw_474⟩, by decide, by decide, by decide +kernel⟩
theorem mv_X5_55 : MV "BallastTrain$Train" 55 yX5_levelOf cX5_levelOf 3 (some .int) 2 := ⟨⟨tw_450, tw_335, tw_336, tw_15, tw_337⟩, by decide, by decide, by decide +kernel⟩
theorem mv_X5_59 : MV "BallastTrain$Train" 59 yX5_restOf cX5_restOf 3 (some .int) 2 := ⟨⟨tw_455, tw_456, tw_457, tw_15, tw_458⟩, by decide, by decide, by decide +kernel⟩
theorem mm_X5_62 : Cond.methodLink "BallastTrain$Train" 62 Lib.Math.min.name ∈ tb ∧ Cond.static Lib.Math.min.name ∈ tb ∧ Cond.initialized "java/lang/Math" ∈ tb ∧ Cond.code Lib.Math.min.name Lib.Math.min.code 2 (some .int) ∈ tb := ⟨tw_372, tw_239, tw_18, by decide +kernel⟩
theorem oi_X6_1 : Cond.methodLink "BallastTrain" 1 objectInit ∈ tb ∧ Cond.instanceMethod objectInit ∈ tb ∧ Cond.code objectInit ⟨#[0xb1]⟩ 1 none ∈ tb := ⟨tw_28, tw_29, by decide +kernel⟩
theorem nd_X6_7 : ND "BallastTrain" 7 3 5 [.null, .int 0, .null, .int 0, .int 0] := ⟨RX3, TX3, tyX3, rfl, inb_X3, tyX3_ok, tw_31, tw_32, tw_9, fun j hj => by rcases (show j = 0 ∨ j = 1 ∨ j = 2 ∨ j = 3 ∨ j = 4 by omega) with rfl | rfl | rfl | rfl | rfl <;> rfl⟩
theorem min_X6_9 : MIN "BallastTrain" 9 yX3_init cX3_init 1 0 := ⟨⟨by decide +kernel, tw_34, rfl, tw_9, tw_35⟩, by decide, by decide, by decide +kernel⟩
theorem fp_X6_10 : FP "BallastTrain" 10 6 0 true (.object "BallastTrain$Text") := ⟨RX6, "BallastTrain", TX6, 4, tyX6, rfl, inb_X6, by decide, tw_200, Or.inl rfl, tyX6_ok, nmX6, rfl, fun _ => rfl, rfl⟩
theorem nd_X6_16 : ND "BallastTrain" 16 2 9 [.null, .null, .null, .null, .int 0, .int 0, .int 0, .int 0, .int 0] := ⟨RX2, TX2, tyX2, rfl, inb_X2, tyX2_ok, tw_81, tw_82, tw_13, fun j hj => by rcases (show j = 0 ∨ j = 1 ∨ j = 2 ∨ j = 3 ∨ j = 4 ∨ j = 5 ∨ j = 6 ∨ j = 7 ∨ j = 8 by omega) with rfl | rfl | rfl | rfl | rfl | rfl | rfl | rfl | rfl <;> rfl⟩
theorem min_X6_18 : MIN "BallastTrain" 18 yX2_init cX2_init 1 0 := ⟨⟨by decide +kernel, tw_84, rfl, tw_13, tw_85⟩, by decide, by decide, by decide +kernel⟩
theorem fp_X6_19 : FP "BallastTrain" 19 6 1 true (.object "BallastTrain$State") := ⟨RX6, "BallastTrain", TX6, 4, tyX6, rfl, inb_X6, by decide, tw_201, Or.inl rfl, tyX6_ok, nmX6, rfl, fun _ => rfl, rfl⟩
theorem fp_X6_23 : FP "BallastTrain" 23 6 2 true (.object "BallastTrain$State") := ⟨RX6, "BallastTrain", TX6, 4, tyX6, rfl, inb_X6, by decide, tw_202, Or.inl rfl, tyX6_ok, nmX6, rfl, fun _ => rfl, rfl⟩
theorem nd_X6_26 : ND "BallastTrain" 26 1 3 [.null, .int 0, .int 0] := ⟨RX0, TX0, tyX0, rfl, inb_X0, tyX0_ok, tw_180, tw_181, tw_17, fun j hj => by rcases (show j = 0 ∨ j = 1 ∨ j = 2 by omega) with rfl | rfl | rfl <;> rfl⟩
theorem mi_X6_28 : MI "BallastTrain" 28 yX0_init cX0_init 2 0 := ⟨⟨tw_182, tw_183, rfl, tw_17, tw_184⟩, by decide, by decide, by decide +kernel⟩
theorem fp_X6_29 : FP "BallastTrain" 29 6 3 true (.object "BallastTrain$History") := ⟨RX6, "BallastTrain", TX6, 4, tyX6, rfl, inb_X6, by decide, tw_203, Or.inl rfl, tyX6_ok, nmX6, rfl, fun _ => rfl, rfl⟩
theorem ms_X6_33 : MS "BallastTrain" 33 yX6_isWithin cX6_isWithin 3 (some .boolean) 3 := ⟨⟨tw_221, tw_222, tw_8, tw_223⟩, by decide, by decide, by decide +kernel⟩
theorem gs_X6_51 : Cond.fieldLink "BallastTrain" 51 "BallastTrain" "LEAST_SETTING" "[I" ∈ tb := tw_510
theorem gs_X6_55 : Cond.fieldLink "BallastTrain" 55 "BallastTrain" "MOST_SETTING" "[I" ∈ tb := tw_512
theorem fd_X6_29 : FD "BallastTrain" 29 6 3 := ⟨RX6, "BallastTrain", TX6, 4, rfl, inb_X6, by decide, tw_203, Or.inl rfl⟩
theorem fd_X6_19 : FD "BallastTrain" 19 6 1 := ⟨RX6, "BallastTrain", TX6, 4, rfl, inb_X6, by decide, tw_201, Or.inl rfl⟩
theorem mv_X6_58 : MV "BallastTrain" 58 yX0_keep cX0_keep 2 none 1 := ⟨⟨tw_224, tw_225, tw_226, tw_17, tw_227⟩, by decide, by decide, by decide +kernel⟩
theorem fd_X6_62 : FD "BallastTrain" 62 2 0 := ⟨RX2, "BallastTrain$State", TX2, 9, rfl, inb_X2, by decide, tw_144, Or.inl rfl⟩
theorem fd_X6_65 : FD "BallastTrain" 65 2 2 := ⟨RX2, "BallastTrain$State", TX2, 9, rfl, inb_X2, by decide, tw_148, Or.inl rfl⟩
theorem mv_X6_69 : MV "BallastTrain" 69 yX5_units cX5_units 1 (some .int) 0 := ⟨⟨tw_468, tw_469, tw_470, tw_15, tw_471⟩, by decide, by decide, by decide +kernel⟩
theorem mv_X6_75 : MV "BallastTrain" 75 yX5_replace cX5_replace 2 none 1 := ⟨⟨tw_572, tw_573, tw_574, tw_15, tw_575⟩, by decide, by decide, by decide +kernel⟩
theorem fd_X6_79 : FD "BallastTrain" 79 2 8 := ⟨RX2, "BallastTrain$State", TX2, 9, rfl, inb_X2, by decide, tw_160, Or.inl rfl⟩
theorem fp_X6_79 : FP "BallastTrain" 79 2 8 false .int := ⟨RX2, "BallastTrain$State", TX2, 9, tyX2, rfl, inb_X2, by decide, tw_160, Or.inl rfl, tyX2_ok, nmX2, rfl, (fun h => by cases h), rfl⟩
theorem mv_X6_82 : MV "BallastTrain" 82 yX5_hasWagon cX5_hasWagon 2 (some .boolean) 1 := ⟨⟨tw_217, tw_218, tw_219, tw_15, tw_220⟩, by decide, by decide, by decide +kernel⟩
theorem fd_X6_85 : FD "BallastTrain" 85 5 2 := ⟨RX5, "BallastTrain$Train", TX5, 8, rfl, inb_X5, by decide, tw_114, Or.inl rfl⟩
theorem fd_X6_88 : FD "BallastTrain" 88 5 4 := ⟨RX5, "BallastTrain$Train", TX5, 8, rfl, inb_X5, by decide, tw_119, Or.inl rfl⟩
theorem fd_X6_91 : FD "BallastTrain" 91 2 6 := ⟨RX2, "BallastTrain$State", TX2, 9, rfl, inb_X2, by decide, tw_156, Or.inl rfl⟩
theorem fp_X6_91 : FP "BallastTrain" 91 2 6 false .int := ⟨RX2, "BallastTrain$State", TX2, 9, tyX2, rfl, inb_X2, by decide, tw_156, Or.inl rfl, tyX2_ok, nmX2, rfl, (fun h => by cases h), rfl⟩
theorem mv_X6_94 : MV "BallastTrain" 94 yX5_hasDoor cX5_hasDoor 3 (some .boolean) 2 := ⟨⟨tw_330, tw_331, tw_332, tw_15, tw_333⟩, by decide, by decide, by decide +kernel⟩
theorem mv_X6_98 : MV "BallastTrain" 98 yX5_levelOf cX5_levelOf 3 (some .int) 2 := ⟨⟨tw_334, tw_335, tw_336, tw_15, tw_337⟩, by decide, by decide, by decide +kernel⟩
theorem mv_X6_102 : MV "BallastTrain" 102 yX5_closeDoor cX5_closeDoor 4 none 3 := ⟨⟨tw_339, tw_340, tw_341, tw_15, tw_342⟩, by decide, by decide, by decide +kernel⟩
theorem mv_X6_106 : MV "BallastTrain" 106 yX5_openDoor cX5_openDoor 4 none 3 := ⟨⟨tw_343, tw_344, tw_345, tw_15, tw_346⟩, by decide, by decide, by decide +kernel⟩
theorem fd_X6_109 : FD "BallastTrain" 109 5 3 := ⟨RX5, "BallastTrain$Train", TX5, 8, rfl, inb_X5, by decide, tw_117, Or.inl rfl⟩
theorem fp_X6_109 : FP "BallastTrain" 109 5 3 false .int := ⟨RX5, "BallastTrain$Train", TX5, 8, tyX5, rfl, inb_X5, by decide, tw_117, Or.inl rfl, tyX5_ok, nmX5, rfl, (fun h => by cases h), rfl⟩
theorem fd_X6_112 : FD "BallastTrain" 112 2 3 := ⟨RX2, "BallastTrain$State", TX2, 9, rfl, inb_X2, by decide, tw_150, Or.inl rfl⟩
theorem mv_X6_116 : MV "BallastTrain" 116 yJx4a65c_size_8abf5 cJx4a65c_size_8abf5 1 (some .int) 0 := ⟨⟨tw_256, tw_257, tw_258, tw_12, tw_259⟩, by decide, by decide, by decide +kernel⟩
theorem mv_X6_126 : MV "BallastTrain" 126 yJx4a65c_remove_915e3 cJx4a65c_remove_915e3 4 (some (.object "java/lang/Object")) 1 := ⟨⟨tw_351, tw_352, tw_353, tw_12, tw_354⟩, by decide, by decide, by decide +kernel⟩
theorem fd_X6_130 : FD "BallastTrain" 130 2 4 := ⟨RX2, "BallastTrain$State", TX2, 9, rfl, inb_X2, by decide, tw_152, Or.inl rfl⟩
theorem mv_X6_133 : MV "BallastTrain" 133 yX2_passSecond cX2_passSecond 1 none 0 := ⟨⟨tw_364, tw_365, tw_366, tw_13, tw_367⟩, by decide, by decide, by decide +kernel⟩
theorem fd_X6_136 : FD "BallastTrain" 136 5 1 := ⟨RX5, "BallastTrain$Train", TX5, 8, rfl, inb_X5, by decide, tw_112, Or.inl rfl⟩
theorem ms_X6_139 : MS "BallastTrain" 139 yX4_has cX4_has 2 (some .boolean) 2 := ⟨⟨tw_552, tw_414, tw_14, tw_415⟩, by decide, by decide, by decide +kernel⟩
theorem fd_X6_144 : FD "BallastTrain" 144 2 1 := ⟨RX2, "BallastTrain$State", TX2, 9, rfl, inb_X2, by decide, tw_146, Or.inl rfl⟩
theorem mv_X6_148 : MV "BallastTrain" 148 yX4_heightAt cX4_heightAt 3 (some .int) 2 := ⟨⟨tw_553, tw_554, tw_555, tw_14, tw_556⟩, by decide, by decide, by decide +kernel⟩
theorem mm_X6_151 : Cond.methodLink "BallastTrain" 151 Lib.Math.min.name ∈ tb ∧ Cond.static Lib.Math.min.name ∈ tb ∧ Cond.initialized "java/lang/Math" ∈ tb ∧ Cond.code Lib.Math.min.name Lib.Math.min.code 2 (some .int) ∈ tb := ⟨tw_238, tw_239, tw_18, by decide +kernel⟩
theorem mv_X6_156 : MV "BallastTrain" 156 yX4_add cX4_add 4 none 3 := ⟨⟨tw_564, tw_417, tw_418, tw_14, tw_419⟩, by decide, by decide, by decide +kernel⟩
theorem fd_X6_159 : FD "BallastTrain" 159 1 2 := ⟨RX0, "BallastTrain$History", TX0, 3, rfl, inb_X0, by decide, tw_192, Or.inl rfl⟩
theorem mv_X6_161 : MV "BallastTrain" 161 yX0_restore cX0_restore 2 none 1 := ⟨⟨tw_437, tw_438, tw_439, tw_17, tw_440⟩, by decide, by decide, by decide +kernel⟩
theorem mv_X6_164 : MV "BallastTrain" 164 yX5_cellBelow cX5_cellBelow 2 (some .int) 1 := ⟨⟨tw_445, tw_386, tw_387, tw_15, tw_388⟩, by decide, by decide, by decide +kernel⟩
theorem mv_X6_168 : MV "BallastTrain" 168 yX5_sumOfLevels cX5_sumOfLevels 4 (some .int) 1 := ⟨⟨tw_446, tw_447, tw_448, tw_15, tw_449⟩, by decide, by decide, by decide +kernel⟩
theorem mv_X6_171 : MV "BallastTrain" 171 yX5_closingDoors cX5_closingDoors 4 (some .int) 1 := ⟨⟨tw_451, tw_452, tw_453, tw_15, tw_454⟩, by decide, by decide, by decide +kernel⟩
theorem fd_X6_174 : FD "BallastTrain" 174 5 5 := ⟨RX5, "BallastTrain$Train", TX5, 8, rfl, inb_X5, by decide, tw_121, Or.inl rfl⟩
theorem mv_X6_177 : MV "BallastTrain" 177 yX5_restOf cX5_restOf 3 (some .int) 2 := ⟨⟨tw_463, tw_456, tw_457, tw_15, tw_458⟩, by decide, by decide, by decide +kernel⟩
theorem fd_X6_223 : FD "BallastTrain" 223 5 0 := ⟨RX5, "BallastTrain$Train", TX5, 8, rfl, inb_X5, by decide, tw_109, Or.inl rfl⟩
theorem fd_X6_226 : FD "BallastTrain" 226 2 5 := ⟨RX2, "BallastTrain$State", TX2, 9, rfl, inb_X2, by decide, tw_154, Or.inl rfl⟩
theorem mv_X6_229 : MV "BallastTrain" 229 yX4_units cX4_units 1 (some .int) 0 := ⟨⟨tw_475, tw_476, tw_477, tw_14, tw_478⟩, by decide, by decide, by decide +kernel⟩
theorem fd_X6_230 : FD "BallastTrain" 230 2 7 := ⟨RX2, "BallastTrain$State", TX2, 9, rfl, inb_X2, by decide, tw_158, Or.inl rfl⟩
theorem fd_X6_10 : FD "BallastTrain" 10 6 0 := ⟨RX6, "BallastTrain", TX6, 4, rfl, inb_X6, by decide, tw_200, Or.inl rfl⟩
theorem fd_X6_41 : FD "BallastTrain" 41 3 1 := ⟨RX3, "BallastTrain$Text", TX3, 5, rfl, inb_X3, by decide, tw_66, Or.inl rfl⟩
theorem ac_X6_279 : CpyW "BallastTrain" 279 := ⟨tw_241, tw_243, tw_242, tw_19⟩
theorem mv_X6_203 : MV "BallastTrain" 203 yJx4a65c_get_915e3 cJx4a65c_get_915e3 2 (some (.object "java/lang/Object")) 1 := ⟨⟨tw_260, tw_261, tw_262, tw_12, tw_263⟩, by decide, by decide, by decide +kernel⟩
theorem cl_X6_206 : Cond.classLink "BallastTrain" 206 "BallastTrain$Order" ∈ tb := tw_274
theorem mv_X6_285 : MV "BallastTrain" 285 yJx4a65c_add_9ea2d cJx4a65c_add_9ea2d 2 (some .boolean) 1 := ⟨⟨tw_275, tw_276, tw_277, tw_12, tw_278⟩, by decide, by decide, by decide +kernel⟩
theorem oi_Jxa1e45_1 : Cond.methodLink "java/util/AbstractCollection" 1 objectInit ∈ tb ∧ Cond.instanceMethod objectInit ∈ tb ∧ Cond.code objectInit ⟨#[0xb1]⟩ 1 none ∈ tb := ⟨tw_48, tw_29, by decide +kernel⟩
theorem mi_Jxc12de_1 : MI "java/util/AbstractList" 1 yJxa1e45_init_da8c8 cJxa1e45_init_da8c8 1 0 := ⟨⟨tw_45, tw_46, rfl, tw_10, tw_47⟩, by decide, by decide, by decide +kernel⟩
theorem fp_Jxc12de_7 : FP "java/util/AbstractList" 7 0 0 false .int := ⟨RJx4a65c, "java/util/AbstractList", TJx4a65c, 3, tyJx4a65c, rfl, inb_Jx4a65c, by decide, tw_53, Or.inl rfl, tyJx4a65c_ok, nmJx4a65c, rfl, (fun h => by cases h), rfl⟩
theorem mi_Jx4a65c_1 : MI "java/util/ArrayList" 1 yJxc12de_init_da8c8 cJxc12de_init_da8c8 1 0 := ⟨⟨tw_42, tw_43, rfl, tw_11, tw_44⟩, by decide, by decide, by decide +kernel⟩
theorem gs_Jx4a65c_39 : Cond.fieldLink "java/util/ArrayList" 39 "java/util/ArrayList" "DEFAULTCAPACITY_EMPTY_ELEMENTDATA" "[Ljava/lang/Object;" ∈ tb := tw_49
theorem fp_Jx4a65c_9 : FP "java/util/ArrayList" 9 0 1 false (.array (.object "java/lang/Object")) := ⟨RJx4a65c, "java/util/ArrayList", TJx4a65c, 3, tyJx4a65c, rfl, inb_Jx4a65c, by decide, tw_51, Or.inl rfl, tyJx4a65c_ok, nmJx4a65c, rfl, (fun h => by cases h), rfl⟩
theorem fd_Jx4a65c_9 : FD "java/util/ArrayList" 9 0 1 := ⟨RJx4a65c, "java/util/ArrayList", TJx4a65c, 3, rfl, inb_Jx4a65c, by decide, tw_51, Or.inl rfl⟩
theorem ms_Jx4a65c_73 : MS "java/util/ArrayList" 73 yJ8_newLength_cabcc cJ8_newLength_cabcc 4 (some .int) 3 := ⟨⟨tw_291, tw_292, tw_22, tw_293⟩, by decide, by decide, by decide +kernel⟩
theorem ms_Jx4a65c_66 : MS "java/util/ArrayList" 66 yJ7_copyOf_1904c cJ7_copyOf_1904c 2 (some (.array (.object "java/lang/Object"))) 2 := ⟨⟨tw_301, tw_302, tw_16, tw_303⟩, by decide, by decide, by decide +kernel⟩
theorem mm_Jx4a65c_79 : Cond.methodLink "java/util/ArrayList" 79 Lib.Math.max.name ∈ tb ∧ Cond.static Lib.Math.max.name ∈ tb ∧ Cond.initialized "java/lang/Math" ∈ tb ∧ Cond.code Lib.Math.max.name Lib.Math.max.code 2 (some .int) ∈ tb := ⟨tw_323, tw_295, tw_18, by decide +kernel⟩
theorem cl_Jx4a65c_7 : Cond.classLink "java/util/ArrayList" 7 "java/lang/Object" ∈ tb := tw_324
theorem fd_Jx4a65c_48 : FD "java/util/ArrayList" 48 0 2 := ⟨RJx4a65c, "java/util/ArrayList", TJx4a65c, 3, rfl, inb_Jx4a65c, by decide, tw_52, Or.inl rfl⟩
theorem mv_Jx4a65c_69 : MV "java/util/ArrayList" 69 yJx4a65c_grow_92f84 cJx4a65c_grow_92f84 4 (some (.array (.object "java/lang/Object"))) 1 := ⟨⟨tw_287, tw_289, tw_2, tw_12, tw_290⟩, by decide, by decide, by decide +kernel⟩
theorem ms_Jx4a65c_118 : MS "java/util/ArrayList" 118 yJ15_checkIndex_7cf53 cJ15_checkIndex_7cf53 2 (some .int) 2 := ⟨⟨tw_264, tw_265, tw_20, tw_266⟩, by decide, by decide, by decide +kernel⟩
theorem mv_Jx4a65c_123 : MV "java/util/ArrayList" 123 yJx4a65c_elementData_915e3 cJx4a65c_elementData_915e3 2 (some (.object "java/lang/Object")) 1 := ⟨⟨tw_270, tw_271, tw_272, tw_12, tw_273⟩, by decide, by decide, by decide +kernel⟩
theorem mv_Jx4a65c_129 : MV "java/util/ArrayList" 129 yJx4a65c_grow_d5877 cJx4a65c_grow_d5877 1 (some (.array (.object "java/lang/Object"))) 0 := ⟨⟨tw_283, tw_285, tw_1, tw_12, tw_286⟩, by decide, by decide, by decide +kernel⟩
theorem fp_Jx4a65c_48 : FP "java/util/ArrayList" 48 0 2 false .int := ⟨RJx4a65c, "java/util/ArrayList", TJx4a65c, 3, tyJx4a65c, rfl, inb_Jx4a65c, by decide, tw_52, Or.inl rfl, tyJx4a65c_ok, nmJx4a65c, rfl, (fun h => by cases h), rfl⟩
theorem fd_Jx4a65c_63 : FD "java/util/ArrayList" 63 0 0 := ⟨RJx4a65c, "java/util/ArrayList", TJx4a65c, 3, rfl, inb_Jx4a65c, by decide, tw_54, Or.inr tw_55⟩
theorem fp_Jx4a65c_63 : FP "java/util/ArrayList" 63 0 0 false .int := ⟨RJx4a65c, "java/util/ArrayList", TJx4a65c, 3, tyJx4a65c, rfl, inb_Jx4a65c, by decide, tw_54, Or.inr tw_55, tyJx4a65c_ok, nmJx4a65c, rfl, (fun h => by cases h), rfl⟩
theorem mv_Jx4a65c_131 : MV "java/util/ArrayList" 131 yJx4a65c_add_72be8 cJx4a65c_add_72be8 4 none 3 := ⟨⟨tw_279, tw_281, tw_0, tw_12, tw_282⟩, by decide, by decide, by decide +kernel⟩
theorem mv_Jx4a65c_144 : MV "java/util/ArrayList" 144 yJx4a65c_fastRemove_b59b0 cJx4a65c_fastRemove_b59b0 4 none 2 := ⟨⟨tw_355, tw_357, tw_3, tw_12, tw_358⟩, by decide, by decide, by decide +kernel⟩
theorem ac_Jx4a65c_112 : CpyW "java/util/ArrayList" 112 := ⟨tw_359, tw_243, tw_242, tw_19⟩
theorem gc_J7_86 : Cond.methodLink "java/util/Arrays" 86 yGC ∈ tb ∧ Cond.selects "[Ljava/lang/Object;" yGC yGC ∈ tb ∧ Cond.instanceMethod yGC ∈ tb ∧ Cond.native yGC ∈ tb := ⟨tw_304, tw_584, tw_305, tw_314⟩
theorem ms_J7_300 : MS "java/util/Arrays" 300 yJ7_copyOf_6403c cJ7_copyOf_6403c 4 (some (.array (.object "java/lang/Object"))) 3 := ⟨⟨tw_315, tw_316, tw_16, tw_317⟩, by decide, by decide, by decide +kernel⟩
theorem cl_J7_110 : Cond.classLink "java/util/Arrays" 110 "[Ljava/lang/Object;" ∈ tb := tw_318
theorem cl_J7_2 : Cond.classLink "java/util/Arrays" 2 "java/lang/Object" ∈ tb := tw_320
theorem mm_J7_304 : Cond.methodLink "java/util/Arrays" 304 Lib.Math.min.name ∈ tb ∧ Cond.static Lib.Math.min.name ∈ tb ∧ Cond.initialized "java/lang/Math" ∈ tb ∧ Cond.code Lib.Math.min.name Lib.Math.min.code 2 (some .int) ∈ tb := ⟨tw_321, tw_239, tw_18, by decide +kernel⟩
theorem ac_J7_150 : CpyW "java/util/Arrays" 150 := ⟨tw_322, tw_243, tw_242, tw_19⟩
theorem ms_J15_105 : MS "java/util/Objects" 105 yJ3_checkIndex_8e157 cJ3_checkIndex_8e157 3 (some .int) 3 := ⟨⟨tw_267, tw_268, tw_21, tw_269⟩, by decide, by decide, by decide +kernel⟩
theorem mm_J8_194 : Cond.methodLink "jdk/internal/util/ArraysSupport" 194 Lib.Math.max.name ∈ tb ∧ Cond.static Lib.Math.max.name ∈ tb ∧ Cond.initialized "java/lang/Math" ∈ tb ∧ Cond.code Lib.Math.max.name Lib.Math.max.code 2 (some .int) ∈ tb := ⟨tw_294, tw_295, tw_18, by decide +kernel⟩
theorem ki_J8_200 : (Jvm.Cond.constant "jdk/internal/util/ArraysSupport" (200 : Nat) (2147483639 : Int32)) ∈ tb := tw_297
theorem ms_J8_201 : MS "jdk/internal/util/ArraysSupport" 201 yJ8_hugeLength_7cf53 cJ8_hugeLength_7cf53 3 (some .int) 2 := ⟨⟨tw_298, tw_299, tw_22, tw_300⟩, by decide, by decide, by decide +kernel⟩
theorem ki_L_7 : (Jvm.Cond.constant "BallastTrainLaw" (7 : Nat) (795577677 : Int32)) ∈ tb := tw_483
theorem ki_L_8 : (Jvm.Cond.constant "BallastTrainLaw" (8 : Nat) (2147483647 : Int32)) ∈ tb := tw_487
theorem ms_L_9 : MS "BallastTrainLaw" 9 yL_couples cL_couples 3 none 2 := ⟨⟨tw_491, tw_492, tw_7, tw_493⟩, by decide, by decide, by decide +kernel⟩
theorem ms_L_15 : MS "BallastTrainLaw" 15 yL_moves cL_moves 6 none 4 := ⟨⟨tw_520, tw_521, tw_7, tw_522⟩, by decide, by decide, by decide +kernel⟩
theorem ms_L_19 : MS "BallastTrainLaw" 19 yL_drops cL_drops 3 none 2 := ⟨⟨tw_539, tw_540, tw_7, tw_541⟩, by decide, by decide, by decide +kernel⟩
theorem ms_L_22 : MS "BallastTrainLaw" 22 yL_orders cL_orders 6 none 2 := ⟨⟨tw_536, tw_537, tw_7, tw_538⟩, by decide, by decide, by decide +kernel⟩
theorem ms_L_26 : MS "BallastTrainLaw" 26 yL_comes cL_comes 4 none 4 := ⟨⟨tw_542, tw_543, tw_7, tw_544⟩, by decide, by decide, by decide +kernel⟩
theorem ms_L_29 : MS "BallastTrainLaw" 29 yL_height cL_height 3 (some .int) 3 := ⟨⟨tw_500, tw_501, tw_7, tw_502⟩, by decide, by decide, by decide +kernel⟩
theorem mv_L_33 : MV "BallastTrainLaw" 33 yX6_set cX6_set 4 (some .int) 2 := ⟨⟨tw_506, tw_507, tw_508, tw_8, tw_509⟩, by decide, by decide, by decide +kernel⟩
theorem mv_L_39 : MV "BallastTrainLaw" 39 yX6_load cX6_load 3 (some .int) 2 := ⟨⟨tw_213, tw_214, tw_215, tw_8, tw_216⟩, by decide, by decide, by decide +kernel⟩
theorem mv_L_42 : MV "BallastTrainLaw" 42 yX6_door cX6_door 5 (some .int) 3 := ⟨⟨tw_326, tw_327, tw_328, tw_8, tw_329⟩, by decide, by decide, by decide +kernel⟩
theorem mv_L_46 : MV "BallastTrainLaw" 46 yX6_wish cX6_wish 3 (some .int) 1 := ⟨⟨tw_526, tw_527, tw_528, tw_8, tw_529⟩, by decide, by decide, by decide +kernel⟩
theorem ms_L_50 : MS "BallastTrainLaw" 50 yL_second cL_second 7 none 3 := ⟨⟨tw_533, tw_534, tw_7, tw_535⟩, by decide, by decide, by decide +kernel⟩
theorem mv_L_54 : MV "BallastTrainLaw" 54 yX6_pass cX6_pass 3 (some .int) 1 := ⟨⟨tw_360, tw_361, tw_362, tw_8, tw_363⟩, by decide, by decide, by decide +kernel⟩
theorem mv_L_57 : MV "BallastTrainLaw" 57 yX6_doorOf cX6_doorOf 4 (some .int) 3 := ⟨⟨tw_459, tw_460, tw_461, tw_8, tw_462⟩, by decide, by decide, by decide +kernel⟩
theorem mv_L_60 : MV "BallastTrainLaw" 60 yX6_wagon cX6_wagon 3 (some .int) 2 := ⟨⟨tw_441, tw_442, tw_443, tw_8, tw_444⟩, by decide, by decide, by decide +kernel⟩
theorem mv_L_63 : MV "BallastTrainLaw" 63 yX6_height cX6_height 3 (some .int) 2 := ⟨⟨tw_548, tw_549, tw_550, tw_8, tw_551⟩, by decide, by decide, by decide +kernel⟩
theorem mv_L_65 : MV "BallastTrainLaw" 65 yX6_count cX6_count 2 (some .int) 1 := ⟨⟨tw_464, tw_465, tw_466, tw_8, tw_467⟩, by decide, by decide, by decide +kernel⟩
theorem ms_L_68 : MS "BallastTrainLaw" 68 yL_sum cL_sum 4 (some .int) 2 := ⟨⟨tw_497, tw_498, tw_7, tw_499⟩, by decide, by decide, by decide +kernel⟩
theorem ms_L_72 : MS "BallastTrainLaw" 72 yL_inWagons cL_inWagons 1 (some .int) 1 := ⟨⟨tw_494, tw_495, tw_7, tw_496⟩, by decide, by decide, by decide +kernel⟩
theorem mv_L_76 : MV "BallastTrainLaw" 76 yX6_scrape cX6_scrape 5 (some .int) 3 := ⟨⟨tw_560, tw_561, tw_562, tw_8, tw_563⟩, by decide, by decide, by decide +kernel⟩
theorem mv_L_79 : MV "BallastTrainLaw" 79 yX6_setTrain cX6_setTrain 3 (some .int) 1 := ⟨⟨tw_568, tw_569, tw_570, tw_8, tw_571⟩, by decide, by decide, by decide +kernel⟩
theorem nd_L_34 : ND "BallastTrainLaw" 34 6 4 [.null, .null, .null, .null] := ⟨RX6, TX6, tyX6, rfl, inb_X6, tyX6_ok, tw_23, tw_24, tw_8, fun j hj => by rcases (show j = 0 ∨ j = 1 ∨ j = 2 ∨ j = 3 by omega) with rfl | rfl | rfl | rfl <;> rfl⟩
theorem mi_L_82 : MI "BallastTrainLaw" 82 yX6_init cX6_init 1 0 := ⟨⟨tw_25, tw_26, rfl, tw_8, tw_27⟩, by decide, by decide, by decide +kernel⟩
theorem ms_L_83 : MS "BallastTrainLaw" 83 yL_begins cL_begins 1 none 1 := ⟨⟨tw_488, tw_489, tw_7, tw_490⟩, by decide, by decide, by decide +kernel⟩
theorem mv_L_87 : MV "BallastTrainLaw" 87 yX6_undo cX6_undo 1 (some .int) 0 := ⟨⟨tw_433, tw_434, tw_435, tw_8, tw_436⟩, by decide, by decide, by decide +kernel⟩
theorem mv_L_91 : MV "BallastTrainLaw" 91 yX6_cancel cX6_cancel 2 (some .int) 1 := ⟨⟨tw_347, tw_348, tw_349, tw_8, tw_350⟩, by decide, by decide, by decide +kernel⟩
theorem ms_L_94 : MS "BallastTrainLaw" 94 yL_isTold cL_isTold 8 (some .boolean) 4 := ⟨⟨tw_545, tw_546, tw_7, tw_547⟩, by decide, by decide, by decide +kernel⟩
theorem ms_L_98 : MS "BallastTrainLaw" 98 yL_cell cL_cell 2 (some .int) 2 := ⟨⟨tw_480, tw_481, tw_7, tw_482⟩, by decide, by decide, by decide +kernel⟩
theorem ms_L_101 : MS "BallastTrainLaw" 101 yL_low cL_low 2 (some .int) 2 := ⟨⟨tw_484, tw_485, tw_7, tw_486⟩, by decide, by decide, by decide +kernel⟩
theorem ms_L_104 : MS "BallastTrainLaw" 104 yL_loads cL_loads 4 (some .boolean) 4 := ⟨⟨tw_514, tw_515, tw_7, tw_516⟩, by decide, by decide, by decide +kernel⟩
theorem ms_L_108 : MS "BallastTrainLaw" 108 yL_sets cL_sets 5 (some .boolean) 4 := ⟨⟨tw_503, tw_504, tw_7, tw_505⟩, by decide, by decide, by decide +kernel⟩
theorem ms_L_111 : MS "BallastTrainLaw" 111 yL_setsTrain cL_setsTrain 4 (some .boolean) 3 := ⟨⟨tw_565, tw_566, tw_7, tw_567⟩, by decide, by decide, by decide +kernel⟩
theorem ms_L_115 : MS "BallastTrainLaw" 115 yL_scrapes cL_scrapes 7 (some .boolean) 6 := ⟨⟨tw_557, tw_558, tw_7, tw_559⟩, by decide, by decide, by decide +kernel⟩
theorem ms_L_119 : MS "BallastTrainLaw" 119 yL_wishes cL_wishes 4 (some .boolean) 3 := ⟨⟨tw_523, tw_524, tw_7, tw_525⟩, by decide, by decide, by decide +kernel⟩
theorem ms_L_122 : MS "BallastTrainLaw" 122 yL_doors cL_doors 6 (some .boolean) 5 := ⟨⟨tw_517, tw_518, tw_7, tw_519⟩, by decide, by decide, by decide +kernel⟩
theorem ms_L_126 : MS "BallastTrainLaw" 126 yL_passes cL_passes 6 (some .boolean) 5 := ⟨⟨tw_530, tw_531, tw_7, tw_532⟩, by decide, by decide, by decide +kernel⟩
theorem ac_int : Cond.arrayClass .int ∈ tb := tb_mem 63 (by decide +kernel) rfl
