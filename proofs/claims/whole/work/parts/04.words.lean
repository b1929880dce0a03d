theorem wq_1 : (Jvm.Cond.initialized "ExactCurves") ∈ qz_T := qz_mem 45 (by decide +kernel) rfl
theorem wq_2 : (Jvm.Cond.initialized "ExactCurves$Purses") ∈ qz_T := qz_mem 46 (by decide +kernel) rfl
theorem wq_3 : (Jvm.Cond.initialized "ExactCurves$Batch") ∈ qz_T := qz_mem 47 (by decide +kernel) rfl
theorem wq_4 : (Jvm.Cond.initialized "ExactCurves$Pool") ∈ qz_T := qz_mem 48 (by decide +kernel) rfl
theorem wq_5 : (Jvm.Cond.initialized "ExactCurves$Mark") ∈ qz_T := qz_mem 49 (by decide +kernel) rfl
theorem wq_6 : (Jvm.Cond.initialized "ExactCurves$Vault") ∈ qz_T := qz_mem 50 (by decide +kernel) rfl
theorem wq_7 : (Jvm.Cond.initialized "ExactCurves$Loan") ∈ qz_T := qz_mem 51 (by decide +kernel) rfl
theorem wq_8 : (Jvm.Cond.initialized "ExactCurvesModel") ∈ qz_T := qz_mem 52 (by decide +kernel) rfl
theorem wq_9 : (Jvm.Cond.initialized "ExactCurves$Exact") ∈ qz_T := qz_mem 53 (by decide +kernel) rfl
theorem wq_10 : (Jvm.Cond.initialized "java/lang/Long") ∈ qz_T := qz_mem 54 (by decide +kernel) rfl
theorem wq_11 : (Jvm.Cond.initialized "java/lang/Math") ∈ qz_T := qz_mem 55 (by decide +kernel) rfl
theorem wq_17 : (Jvm.Cond.methodLink "ExactCurves" (1 : Nat) ({ cls := "java/lang/Object", name := "<init>", desc := "()V" } : Jvm.MethodName)) ∈ qz_T := qz_mem 61 (by decide +kernel) rfl
theorem wq_18 : (Jvm.Cond.instanceMethod ({ cls := "java/lang/Object", name := "<init>", desc := "()V" } : Jvm.MethodName)) ∈ qz_T := qz_mem 62 (by decide +kernel) rfl
theorem wq_20 : (Jvm.Cond.classLink "ExactCurves" (7 : Nat) "ExactCurves$Purses") ∈ qz_T := qz_mem 64 (by decide +kernel) rfl
theorem wq_21 : (Jvm.Cond.instantiable "ExactCurves$Purses" (3 : Nat)) ∈ qz_T := qz_mem 65 (by decide +kernel) rfl
theorem wq_23 : (Jvm.Cond.instanceMethod ({ cls := "ExactCurves$Purses", name := "<init>", desc := "()V" } : Jvm.MethodName)) ∈ qz_T := qz_mem 67 (by decide +kernel) rfl
theorem wq_24 : (Jvm.Cond.code ({ cls := "ExactCurves$Purses", name := "<init>", desc := "()V" } : Jvm.MethodName) prog_7_method_1_code (1 : Nat) (Option.none : Option Jvm.ClassFile.FieldType)) ∈ qz_T := qz_mem 68 (by decide +kernel) rfl
theorem wq_25 : (Jvm.Cond.methodLink "ExactCurves$Purses" (3 : Nat) ({ cls := "java/lang/Object", name := "<init>", desc := "()V" } : Jvm.MethodName)) ∈ qz_T := qz_mem 69 (by decide +kernel) rfl
theorem wq_26 : (Jvm.Cond.fieldLink "ExactCurves$Purses" (9 : Nat) "ExactCurves$Purses" "amounts" "[J") ∈ qz_T := qz_mem 70 (by decide +kernel) rfl
theorem wq_27 : (Jvm.Cond.fieldLink "ExactCurves$Purses" (15 : Nat) "ExactCurves$Purses" "minted" "[J") ∈ qz_T := qz_mem 71 (by decide +kernel) rfl
theorem wq_28 : (Jvm.Cond.fieldLink "ExactCurves" (62 : Nat) "ExactCurves$Purses" "minted" "[J") ∈ qz_T := qz_mem 72 (by decide +kernel) rfl
theorem wq_29 : (Jvm.Cond.fieldLink "ExactCurves$Purses" (18 : Nat) "ExactCurves$Purses" "kept" "[J") ∈ qz_T := qz_mem 73 (by decide +kernel) rfl
theorem wq_30 : (Jvm.Cond.fieldLink "ExactCurves" (76 : Nat) "ExactCurves$Purses" "kept" "[J") ∈ qz_T := qz_mem 74 (by decide +kernel) rfl
theorem wq_31 : (Jvm.Cond.laysFinal "ExactCurves$Purses" "ExactCurves$Purses" "amounts" "[J") ∈ qz_T := qz_mem 75 (by decide +kernel) rfl
theorem wq_33 : (Jvm.Cond.laysFinal "ExactCurves$Purses" "ExactCurves$Purses" "minted" "[J") ∈ qz_T := qz_mem 77 (by decide +kernel) rfl
theorem wq_35 : (Jvm.Cond.laysFinal "ExactCurves$Purses" "ExactCurves$Purses" "kept" "[J") ∈ qz_T := qz_mem 79 (by decide +kernel) rfl
theorem wq_38 : (Jvm.Cond.arrayClass Jvm.ClassFile.FieldType.long) ∈ qz_T := qz_mem 82 (by decide +kernel) rfl
theorem wq_39 : (Jvm.Cond.classLink "ExactCurves" (16 : Nat) "ExactCurves$Pool") ∈ qz_T := qz_mem 83 (by decide +kernel) rfl
theorem wq_41 : (Jvm.Cond.classLink "ExactCurves" (22 : Nat) "ExactCurves$Mark") ∈ qz_T := qz_mem 85 (by decide +kernel) rfl
theorem wq_43 : (Jvm.Cond.classLink "ExactCurves" (28 : Nat) "ExactCurves$Batch") ∈ qz_T := qz_mem 87 (by decide +kernel) rfl
theorem wq_44 : (Jvm.Cond.instantiable "ExactCurves$Batch" (10 : Nat)) ∈ qz_T := qz_mem 88 (by decide +kernel) rfl
theorem wq_46 : (Jvm.Cond.instanceMethod ({ cls := "ExactCurves$Batch", name := "<init>", desc := "()V" } : Jvm.MethodName)) ∈ qz_T := qz_mem 90 (by decide +kernel) rfl
theorem wq_47 : (Jvm.Cond.code ({ cls := "ExactCurves$Batch", name := "<init>", desc := "()V" } : Jvm.MethodName) prog_2_method_1_code (1 : Nat) (Option.none : Option Jvm.ClassFile.FieldType)) ∈ qz_T := qz_mem 91 (by decide +kernel) rfl
theorem wq_48 : (Jvm.Cond.methodLink "ExactCurves$Batch" (3 : Nat) ({ cls := "java/lang/Object", name := "<init>", desc := "()V" } : Jvm.MethodName)) ∈ qz_T := qz_mem 92 (by decide +kernel) rfl
theorem wq_49 : (Jvm.Cond.fieldLink "ExactCurves$Batch" (9 : Nat) "ExactCurves$Batch" "players" "[I") ∈ qz_T := qz_mem 93 (by decide +kernel) rfl
theorem wq_50 : (Jvm.Cond.fieldLink "ExactCurves" (339 : Nat) "ExactCurves$Batch" "players" "[I") ∈ qz_T := qz_mem 94 (by decide +kernel) rfl
theorem wq_51 : (Jvm.Cond.fieldLink "ExactCurves$Batch" (15 : Nat) "ExactCurves$Batch" "buys" "[Z") ∈ qz_T := qz_mem 95 (by decide +kernel) rfl
theorem wq_52 : (Jvm.Cond.fieldLink "ExactCurves" (215 : Nat) "ExactCurves$Batch" "buys" "[Z") ∈ qz_T := qz_mem 96 (by decide +kernel) rfl
theorem wq_53 : (Jvm.Cond.fieldLink "ExactCurves$Batch" (19 : Nat) "ExactCurves$Batch" "amounts" "[J") ∈ qz_T := qz_mem 97 (by decide +kernel) rfl
theorem wq_54 : (Jvm.Cond.fieldLink "ExactCurves" (333 : Nat) "ExactCurves$Batch" "amounts" "[J") ∈ qz_T := qz_mem 98 (by decide +kernel) rfl
theorem wq_55 : (Jvm.Cond.fieldLink "ExactCurves$Batch" (23 : Nat) "ExactCurves$Batch" "limits" "[J") ∈ qz_T := qz_mem 99 (by decide +kernel) rfl
theorem wq_56 : (Jvm.Cond.fieldLink "ExactCurves" (336 : Nat) "ExactCurves$Batch" "limits" "[J") ∈ qz_T := qz_mem 100 (by decide +kernel) rfl
theorem wq_57 : (Jvm.Cond.fieldLink "ExactCurves$Batch" (26 : Nat) "ExactCurves$Batch" "parts" "[J") ∈ qz_T := qz_mem 101 (by decide +kernel) rfl
theorem wq_58 : (Jvm.Cond.fieldLink "ExactCurves" (231 : Nat) "ExactCurves$Batch" "parts" "[J") ∈ qz_T := qz_mem 102 (by decide +kernel) rfl
theorem wq_59 : (Jvm.Cond.fieldLink "ExactCurves$Batch" (29 : Nat) "ExactCurves$Batch" "tokenA" "I") ∈ qz_T := qz_mem 103 (by decide +kernel) rfl
theorem wq_60 : (Jvm.Cond.fieldLink "ExactCurves" (187 : Nat) "ExactCurves$Batch" "tokenA" "I") ∈ qz_T := qz_mem 104 (by decide +kernel) rfl
theorem wq_61 : (Jvm.Cond.fieldLink "ExactCurves$Batch" (33 : Nat) "ExactCurves$Batch" "tokenB" "I") ∈ qz_T := qz_mem 105 (by decide +kernel) rfl
theorem wq_62 : (Jvm.Cond.fieldLink "ExactCurves" (190 : Nat) "ExactCurves$Batch" "tokenB" "I") ∈ qz_T := qz_mem 106 (by decide +kernel) rfl
theorem wq_63 : (Jvm.Cond.fieldLink "ExactCurves$Batch" (38 : Nat) "ExactCurves$Batch" "size" "I") ∈ qz_T := qz_mem 107 (by decide +kernel) rfl
theorem wq_64 : (Jvm.Cond.fieldLink "ExactCurves" (184 : Nat) "ExactCurves$Batch" "size" "I") ∈ qz_T := qz_mem 108 (by decide +kernel) rfl
theorem wq_65 : (Jvm.Cond.fieldLink "ExactCurves$Batch" (65 : Nat) "ExactCurves$Batch" "latestSize" "I") ∈ qz_T := qz_mem 109 (by decide +kernel) rfl
theorem wq_66 : (Jvm.Cond.fieldLink "ExactCurves" (228 : Nat) "ExactCurves$Batch" "latestSize" "I") ∈ qz_T := qz_mem 110 (by decide +kernel) rfl
theorem wq_67 : (Jvm.Cond.fieldLink "ExactCurves$Batch" (61 : Nat) "ExactCurves$Batch" "latestDealt" "J") ∈ qz_T := qz_mem 111 (by decide +kernel) rfl
theorem wq_68 : (Jvm.Cond.fieldLink "ExactCurves" (225 : Nat) "ExactCurves$Batch" "latestDealt" "J") ∈ qz_T := qz_mem 112 (by decide +kernel) rfl
theorem wq_69 : (Jvm.Cond.laysFinal "ExactCurves$Batch" "ExactCurves$Batch" "players" "[I") ∈ qz_T := qz_mem 113 (by decide +kernel) rfl
theorem wq_71 : (Jvm.Cond.laysFinal "ExactCurves$Batch" "ExactCurves$Batch" "buys" "[Z") ∈ qz_T := qz_mem 115 (by decide +kernel) rfl
theorem wq_73 : (Jvm.Cond.laysFinal "ExactCurves$Batch" "ExactCurves$Batch" "amounts" "[J") ∈ qz_T := qz_mem 117 (by decide +kernel) rfl
theorem wq_75 : (Jvm.Cond.laysFinal "ExactCurves$Batch" "ExactCurves$Batch" "limits" "[J") ∈ qz_T := qz_mem 119 (by decide +kernel) rfl
theorem wq_77 : (Jvm.Cond.laysFinal "ExactCurves$Batch" "ExactCurves$Batch" "parts" "[J") ∈ qz_T := qz_mem 121 (by decide +kernel) rfl
theorem wq_79 : (Jvm.Cond.lays "ExactCurves$Batch" "ExactCurves$Batch" "tokenA" "I") ∈ qz_T := qz_mem 123 (by decide +kernel) rfl
theorem wq_81 : (Jvm.Cond.lays "ExactCurves$Batch" "ExactCurves$Batch" "tokenB" "I") ∈ qz_T := qz_mem 125 (by decide +kernel) rfl
theorem wq_83 : (Jvm.Cond.lays "ExactCurves$Batch" "ExactCurves$Batch" "size" "I") ∈ qz_T := qz_mem 127 (by decide +kernel) rfl
theorem wq_85 : (Jvm.Cond.lays "ExactCurves$Batch" "ExactCurves$Batch" "latestSize" "I") ∈ qz_T := qz_mem 129 (by decide +kernel) rfl
theorem wq_87 : (Jvm.Cond.lays "ExactCurves$Batch" "ExactCurves$Batch" "latestDealt" "J") ∈ qz_T := qz_mem 131 (by decide +kernel) rfl
theorem wq_90 : (Jvm.Cond.arrayClass Jvm.ClassFile.FieldType.int) ∈ qz_T := qz_mem 134 (by decide +kernel) rfl
theorem wq_91 : (Jvm.Cond.arrayClass Jvm.ClassFile.FieldType.boolean) ∈ qz_T := qz_mem 135 (by decide +kernel) rfl
theorem wq_92 : (Jvm.Cond.classLink "ExactCurves" (35 : Nat) "ExactCurves$Vault") ∈ qz_T := qz_mem 136 (by decide +kernel) rfl
theorem wq_94 : (Jvm.Cond.classLink "ExactCurves" (41 : Nat) "ExactCurves$Loan") ∈ qz_T := qz_mem 138 (by decide +kernel) rfl
theorem wq_96 : (Jvm.Cond.instantiable "ExactCurves$Pool" (10 : Nat)) ∈ qz_T := qz_mem 140 (by decide +kernel) rfl
theorem wq_98 : (Jvm.Cond.instanceMethod ({ cls := "ExactCurves$Pool", name := "<init>", desc := "()V" } : Jvm.MethodName)) ∈ qz_T := qz_mem 142 (by decide +kernel) rfl
theorem wq_99 : (Jvm.Cond.code ({ cls := "ExactCurves$Pool", name := "<init>", desc := "()V" } : Jvm.MethodName) prog_6_method_1_code (1 : Nat) (Option.none : Option Jvm.ClassFile.FieldType)) ∈ qz_T := qz_mem 143 (by decide +kernel) rfl
theorem wq_100 : (Jvm.Cond.methodLink "ExactCurves$Pool" (3 : Nat) ({ cls := "java/lang/Object", name := "<init>", desc := "()V" } : Jvm.MethodName)) ∈ qz_T := qz_mem 144 (by decide +kernel) rfl
theorem wq_101 : (Jvm.Cond.fieldLink "ExactCurves$Pool" (9 : Nat) "ExactCurves$Pool" "sharesOf" "[J") ∈ qz_T := qz_mem 145 (by decide +kernel) rfl
theorem wq_102 : (Jvm.Cond.fieldLink "ExactCurves" (123 : Nat) "ExactCurves$Pool" "sharesOf" "[J") ∈ qz_T := qz_mem 146 (by decide +kernel) rfl
theorem wq_103 : (Jvm.Cond.fieldLink "ExactCurves$Pool" (15 : Nat) "ExactCurves$Pool" "one" "I") ∈ qz_T := qz_mem 147 (by decide +kernel) rfl
theorem wq_104 : (Jvm.Cond.fieldLink "ExactCurves" (83 : Nat) "ExactCurves$Pool" "one" "I") ∈ qz_T := qz_mem 148 (by decide +kernel) rfl
theorem wq_105 : (Jvm.Cond.fieldLink "ExactCurves$Pool" (19 : Nat) "ExactCurves$Pool" "two" "I") ∈ qz_T := qz_mem 149 (by decide +kernel) rfl
theorem wq_106 : (Jvm.Cond.fieldLink "ExactCurves" (86 : Nat) "ExactCurves$Pool" "two" "I") ∈ qz_T := qz_mem 150 (by decide +kernel) rfl
theorem wq_107 : (Jvm.Cond.fieldLink "ExactCurves$Pool" (38 : Nat) "ExactCurves$Pool" "kind" "I") ∈ qz_T := qz_mem 151 (by decide +kernel) rfl
theorem wq_108 : (Jvm.Cond.fieldLink "ExactCurves" (89 : Nat) "ExactCurves$Pool" "kind" "I") ∈ qz_T := qz_mem 152 (by decide +kernel) rfl
theorem wq_109 : (Jvm.Cond.fieldLink "ExactCurves$Pool" (41 : Nat) "ExactCurves$Pool" "fee" "I") ∈ qz_T := qz_mem 153 (by decide +kernel) rfl
theorem wq_110 : (Jvm.Cond.fieldLink "ExactCurves" (92 : Nat) "ExactCurves$Pool" "fee" "I") ∈ qz_T := qz_mem 154 (by decide +kernel) rfl
theorem wq_111 : (Jvm.Cond.fieldLink "ExactCurves$Pool" (22 : Nat) "ExactCurves$Pool" "x" "J") ∈ qz_T := qz_mem 155 (by decide +kernel) rfl
theorem wq_112 : (Jvm.Cond.fieldLink "ExactCurves" (143 : Nat) "ExactCurves$Pool" "x" "J") ∈ qz_T := qz_mem 156 (by decide +kernel) rfl
theorem wq_113 : (Jvm.Cond.fieldLink "ExactCurves$Pool" (26 : Nat) "ExactCurves$Pool" "y" "J") ∈ qz_T := qz_mem 157 (by decide +kernel) rfl
theorem wq_114 : (Jvm.Cond.fieldLink "ExactCurves" (146 : Nat) "ExactCurves$Pool" "y" "J") ∈ qz_T := qz_mem 158 (by decide +kernel) rfl
theorem wq_115 : (Jvm.Cond.fieldLink "ExactCurves$Pool" (29 : Nat) "ExactCurves$Pool" "shares" "J") ∈ qz_T := qz_mem 159 (by decide +kernel) rfl
theorem wq_116 : (Jvm.Cond.fieldLink "ExactCurves" (107 : Nat) "ExactCurves$Pool" "shares" "J") ∈ qz_T := qz_mem 160 (by decide +kernel) rfl
theorem wq_117 : (Jvm.Cond.fieldLink "ExactCurves$Pool" (32 : Nat) "ExactCurves$Pool" "tally" "J") ∈ qz_T := qz_mem 161 (by decide +kernel) rfl
theorem wq_118 : (Jvm.Cond.fieldLink "ExactCurves" (168 : Nat) "ExactCurves$Pool" "tally" "J") ∈ qz_T := qz_mem 162 (by decide +kernel) rfl
theorem wq_119 : (Jvm.Cond.fieldLink "ExactCurves$Pool" (35 : Nat) "ExactCurves$Pool" "age" "J") ∈ qz_T := qz_mem 163 (by decide +kernel) rfl
theorem wq_120 : (Jvm.Cond.fieldLink "ExactCurves" (172 : Nat) "ExactCurves$Pool" "age" "J") ∈ qz_T := qz_mem 164 (by decide +kernel) rfl
theorem wq_121 : (Jvm.Cond.laysFinal "ExactCurves$Pool" "ExactCurves$Pool" "sharesOf" "[J") ∈ qz_T := qz_mem 165 (by decide +kernel) rfl
theorem wq_123 : (Jvm.Cond.lays "ExactCurves$Pool" "ExactCurves$Pool" "one" "I") ∈ qz_T := qz_mem 167 (by decide +kernel) rfl
theorem wq_125 : (Jvm.Cond.lays "ExactCurves$Pool" "ExactCurves$Pool" "two" "I") ∈ qz_T := qz_mem 169 (by decide +kernel) rfl
theorem wq_127 : (Jvm.Cond.lays "ExactCurves$Pool" "ExactCurves$Pool" "kind" "I") ∈ qz_T := qz_mem 171 (by decide +kernel) rfl
theorem wq_129 : (Jvm.Cond.lays "ExactCurves$Pool" "ExactCurves$Pool" "fee" "I") ∈ qz_T := qz_mem 173 (by decide +kernel) rfl
theorem wq_131 : (Jvm.Cond.lays "ExactCurves$Pool" "ExactCurves$Pool" "x" "J") ∈ qz_T := qz_mem 175 (by decide +kernel) rfl
theorem wq_133 : (Jvm.Cond.lays "ExactCurves$Pool" "ExactCurves$Pool" "y" "J") ∈ qz_T := qz_mem 177 (by decide +kernel) rfl
theorem wq_135 : (Jvm.Cond.lays "ExactCurves$Pool" "ExactCurves$Pool" "shares" "J") ∈ qz_T := qz_mem 179 (by decide +kernel) rfl
theorem wq_137 : (Jvm.Cond.lays "ExactCurves$Pool" "ExactCurves$Pool" "tally" "J") ∈ qz_T := qz_mem 181 (by decide +kernel) rfl
theorem wq_139 : (Jvm.Cond.lays "ExactCurves$Pool" "ExactCurves$Pool" "age" "J") ∈ qz_T := qz_mem 183 (by decide +kernel) rfl
theorem wq_142 : (Jvm.Cond.instantiable "ExactCurves$Mark" (4 : Nat)) ∈ qz_T := qz_mem 186 (by decide +kernel) rfl
theorem wq_144 : (Jvm.Cond.instanceMethod ({ cls := "ExactCurves$Mark", name := "<init>", desc := "()V" } : Jvm.MethodName)) ∈ qz_T := qz_mem 188 (by decide +kernel) rfl
theorem wq_145 : (Jvm.Cond.code ({ cls := "ExactCurves$Mark", name := "<init>", desc := "()V" } : Jvm.MethodName) prog_5_method_1_code (1 : Nat) (Option.none : Option Jvm.ClassFile.FieldType)) ∈ qz_T := qz_mem 189 (by decide +kernel) rfl
theorem wq_146 : (Jvm.Cond.methodLink "ExactCurves$Mark" (1 : Nat) ({ cls := "java/lang/Object", name := "<init>", desc := "()V" } : Jvm.MethodName)) ∈ qz_T := qz_mem 190 (by decide +kernel) rfl
theorem wq_147 : (Jvm.Cond.fieldLink "ExactCurves" (161 : Nat) "ExactCurves$Mark" "isSet" "Z") ∈ qz_T := qz_mem 191 (by decide +kernel) rfl
theorem wq_148 : (Jvm.Cond.fieldLink "ExactCurves" (165 : Nat) "ExactCurves$Mark" "poolNumber" "I") ∈ qz_T := qz_mem 192 (by decide +kernel) rfl
theorem wq_149 : (Jvm.Cond.fieldLink "ExactCurves" (171 : Nat) "ExactCurves$Mark" "tally" "J") ∈ qz_T := qz_mem 193 (by decide +kernel) rfl
theorem wq_150 : (Jvm.Cond.fieldLink "ExactCurves" (175 : Nat) "ExactCurves$Mark" "age" "J") ∈ qz_T := qz_mem 194 (by decide +kernel) rfl
theorem wq_151 : (Jvm.Cond.lays "ExactCurves$Mark" "ExactCurves$Mark" "isSet" "Z") ∈ qz_T := qz_mem 195 (by decide +kernel) rfl
theorem wq_153 : (Jvm.Cond.lays "ExactCurves$Mark" "ExactCurves$Mark" "poolNumber" "I") ∈ qz_T := qz_mem 197 (by decide +kernel) rfl
theorem wq_155 : (Jvm.Cond.lays "ExactCurves$Mark" "ExactCurves$Mark" "tally" "J") ∈ qz_T := qz_mem 199 (by decide +kernel) rfl
theorem wq_157 : (Jvm.Cond.lays "ExactCurves$Mark" "ExactCurves$Mark" "age" "J") ∈ qz_T := qz_mem 201 (by decide +kernel) rfl
theorem wq_160 : (Jvm.Cond.instantiable "ExactCurves$Vault" (5 : Nat)) ∈ qz_T := qz_mem 204 (by decide +kernel) rfl
theorem wq_162 : (Jvm.Cond.instanceMethod ({ cls := "ExactCurves$Vault", name := "<init>", desc := "()V" } : Jvm.MethodName)) ∈ qz_T := qz_mem 206 (by decide +kernel) rfl
theorem wq_163 : (Jvm.Cond.code ({ cls := "ExactCurves$Vault", name := "<init>", desc := "()V" } : Jvm.MethodName) prog_8_method_1_code (1 : Nat) (Option.none : Option Jvm.ClassFile.FieldType)) ∈ qz_T := qz_mem 207 (by decide +kernel) rfl
theorem wq_164 : (Jvm.Cond.methodLink "ExactCurves$Vault" (3 : Nat) ({ cls := "java/lang/Object", name := "<init>", desc := "()V" } : Jvm.MethodName)) ∈ qz_T := qz_mem 208 (by decide +kernel) rfl
theorem wq_165 : (Jvm.Cond.constantLong "ExactCurves$Vault" (15 : Nat) (1000000000 : Int64)) ∈ qz_T := qz_mem 209 (by decide +kernel) rfl
theorem wq_166 : (Jvm.Cond.fieldLink "ExactCurves$Vault" (9 : Nat) "ExactCurves$Vault" "partsOf" "[J") ∈ qz_T := qz_mem 210 (by decide +kernel) rfl
theorem wq_167 : (Jvm.Cond.fieldLink "ExactCurves" (251 : Nat) "ExactCurves$Vault" "partsOf" "[J") ∈ qz_T := qz_mem 211 (by decide +kernel) rfl
theorem wq_168 : (Jvm.Cond.fieldLink "ExactCurves$Vault" (21 : Nat) "ExactCurves$Vault" "has" "J") ∈ qz_T := qz_mem 212 (by decide +kernel) rfl
theorem wq_169 : (Jvm.Cond.fieldLink "ExactCurves" (245 : Nat) "ExactCurves$Vault" "has" "J") ∈ qz_T := qz_mem 213 (by decide +kernel) rfl
theorem wq_170 : (Jvm.Cond.fieldLink "ExactCurves$Vault" (24 : Nat) "ExactCurves$Vault" "parts" "J") ∈ qz_T := qz_mem 214 (by decide +kernel) rfl
theorem wq_171 : (Jvm.Cond.fieldLink "ExactCurves" (237 : Nat) "ExactCurves$Vault" "parts" "J") ∈ qz_T := qz_mem 215 (by decide +kernel) rfl
theorem wq_172 : (Jvm.Cond.fieldLink "ExactCurves$Vault" (27 : Nat) "ExactCurves$Vault" "rate" "J") ∈ qz_T := qz_mem 216 (by decide +kernel) rfl
theorem wq_173 : (Jvm.Cond.fieldLink "ExactCurves" (234 : Nat) "ExactCurves$Vault" "rate" "J") ∈ qz_T := qz_mem 217 (by decide +kernel) rfl
theorem wq_174 : (Jvm.Cond.fieldLink "ExactCurves$Vault" (17 : Nat) "ExactCurves$Vault" "index" "J") ∈ qz_T := qz_mem 218 (by decide +kernel) rfl
theorem wq_175 : (Jvm.Cond.laysFinal "ExactCurves$Vault" "ExactCurves$Vault" "partsOf" "[J") ∈ qz_T := qz_mem 219 (by decide +kernel) rfl
theorem wq_177 : (Jvm.Cond.lays "ExactCurves$Vault" "ExactCurves$Vault" "has" "J") ∈ qz_T := qz_mem 221 (by decide +kernel) rfl
theorem wq_179 : (Jvm.Cond.lays "ExactCurves$Vault" "ExactCurves$Vault" "parts" "J") ∈ qz_T := qz_mem 223 (by decide +kernel) rfl
theorem wq_181 : (Jvm.Cond.lays "ExactCurves$Vault" "ExactCurves$Vault" "rate" "J") ∈ qz_T := qz_mem 225 (by decide +kernel) rfl
theorem wq_183 : (Jvm.Cond.lays "ExactCurves$Vault" "ExactCurves$Vault" "index" "J") ∈ qz_T := qz_mem 227 (by decide +kernel) rfl
theorem wq_186 : (Jvm.Cond.instantiable "ExactCurves$Loan" (6 : Nat)) ∈ qz_T := qz_mem 230 (by decide +kernel) rfl
theorem wq_188 : (Jvm.Cond.instanceMethod ({ cls := "ExactCurves$Loan", name := "<init>", desc := "()V" } : Jvm.MethodName)) ∈ qz_T := qz_mem 232 (by decide +kernel) rfl
theorem wq_189 : (Jvm.Cond.code ({ cls := "ExactCurves$Loan", name := "<init>", desc := "()V" } : Jvm.MethodName) prog_4_method_1_code (1 : Nat) (Option.none : Option Jvm.ClassFile.FieldType)) ∈ qz_T := qz_mem 233 (by decide +kernel) rfl
theorem wq_190 : (Jvm.Cond.methodLink "ExactCurves$Loan" (1 : Nat) ({ cls := "java/lang/Object", name := "<init>", desc := "()V" } : Jvm.MethodName)) ∈ qz_T := qz_mem 234 (by decide +kernel) rfl
theorem wq_191 : (Jvm.Cond.fieldLink "ExactCurves$Loan" (7 : Nat) "ExactCurves$Loan" "isOpen" "Z") ∈ qz_T := qz_mem 235 (by decide +kernel) rfl
theorem wq_192 : (Jvm.Cond.fieldLink "ExactCurves" (314 : Nat) "ExactCurves$Loan" "isOpen" "Z") ∈ qz_T := qz_mem 236 (by decide +kernel) rfl
theorem wq_193 : (Jvm.Cond.fieldLink "ExactCurves$Loan" (13 : Nat) "ExactCurves$Loan" "player" "I") ∈ qz_T := qz_mem 237 (by decide +kernel) rfl
theorem wq_194 : (Jvm.Cond.fieldLink "ExactCurves" (278 : Nat) "ExactCurves$Loan" "player" "I") ∈ qz_T := qz_mem 238 (by decide +kernel) rfl
theorem wq_195 : (Jvm.Cond.fieldLink "ExactCurves$Loan" (17 : Nat) "ExactCurves$Loan" "poolNumber" "I") ∈ qz_T := qz_mem 239 (by decide +kernel) rfl
theorem wq_196 : (Jvm.Cond.fieldLink "ExactCurves" (281 : Nat) "ExactCurves$Loan" "poolNumber" "I") ∈ qz_T := qz_mem 240 (by decide +kernel) rfl
theorem wq_197 : (Jvm.Cond.fieldLink "ExactCurves$Loan" (20 : Nat) "ExactCurves$Loan" "side" "I") ∈ qz_T := qz_mem 241 (by decide +kernel) rfl
theorem wq_198 : (Jvm.Cond.fieldLink "ExactCurves" (282 : Nat) "ExactCurves$Loan" "side" "I") ∈ qz_T := qz_mem 242 (by decide +kernel) rfl
theorem wq_199 : (Jvm.Cond.fieldLink "ExactCurves$Loan" (23 : Nat) "ExactCurves$Loan" "cover" "J") ∈ qz_T := qz_mem 243 (by decide +kernel) rfl
theorem wq_200 : (Jvm.Cond.fieldLink "ExactCurves" (285 : Nat) "ExactCurves$Loan" "cover" "J") ∈ qz_T := qz_mem 244 (by decide +kernel) rfl
theorem wq_201 : (Jvm.Cond.fieldLink "ExactCurves$Loan" (27 : Nat) "ExactCurves$Loan" "units" "J") ∈ qz_T := qz_mem 245 (by decide +kernel) rfl
theorem wq_202 : (Jvm.Cond.fieldLink "ExactCurves" (288 : Nat) "ExactCurves$Loan" "units" "J") ∈ qz_T := qz_mem 246 (by decide +kernel) rfl
theorem wq_203 : (Jvm.Cond.lays "ExactCurves$Loan" "ExactCurves$Loan" "isOpen" "Z") ∈ qz_T := qz_mem 247 (by decide +kernel) rfl
theorem wq_205 : (Jvm.Cond.lays "ExactCurves$Loan" "ExactCurves$Loan" "player" "I") ∈ qz_T := qz_mem 249 (by decide +kernel) rfl
theorem wq_207 : (Jvm.Cond.lays "ExactCurves$Loan" "ExactCurves$Loan" "poolNumber" "I") ∈ qz_T := qz_mem 251 (by decide +kernel) rfl
theorem wq_209 : (Jvm.Cond.lays "ExactCurves$Loan" "ExactCurves$Loan" "side" "I") ∈ qz_T := qz_mem 253 (by decide +kernel) rfl
theorem wq_211 : (Jvm.Cond.lays "ExactCurves$Loan" "ExactCurves$Loan" "cover" "J") ∈ qz_T := qz_mem 255 (by decide +kernel) rfl
theorem wq_213 : (Jvm.Cond.lays "ExactCurves$Loan" "ExactCurves$Loan" "units" "J") ∈ qz_T := qz_mem 257 (by decide +kernel) rfl
theorem wq_216 : (Jvm.Cond.fieldLink "ExactCurves" (10 : Nat) "ExactCurves" "purses" "LExactCurves$Purses;") ∈ qz_T := qz_mem 260 (by decide +kernel) rfl
theorem wq_217 : (Jvm.Cond.fieldLink "ExactCurves" (18 : Nat) "ExactCurves" "pools" "[LExactCurves$Pool;") ∈ qz_T := qz_mem 261 (by decide +kernel) rfl
theorem wq_218 : (Jvm.Cond.fieldLink "ExactCurves" (24 : Nat) "ExactCurves" "marks" "[LExactCurves$Mark;") ∈ qz_T := qz_mem 262 (by decide +kernel) rfl
theorem wq_219 : (Jvm.Cond.fieldLink "ExactCurves" (31 : Nat) "ExactCurves" "orders" "LExactCurves$Batch;") ∈ qz_T := qz_mem 263 (by decide +kernel) rfl
theorem wq_220 : (Jvm.Cond.fieldLink "ExactCurves" (37 : Nat) "ExactCurves" "vaults" "[LExactCurves$Vault;") ∈ qz_T := qz_mem 264 (by decide +kernel) rfl
theorem wq_221 : (Jvm.Cond.fieldLink "ExactCurves" (43 : Nat) "ExactCurves" "loans" "[LExactCurves$Loan;") ∈ qz_T := qz_mem 265 (by decide +kernel) rfl
theorem wq_222 : (Jvm.Cond.fieldLink "ExactCurves" (79 : Nat) "ExactCurves" "poolCount" "I") ∈ qz_T := qz_mem 266 (by decide +kernel) rfl
theorem wq_223 : (Jvm.Cond.fieldLink "ExactCurves" (158 : Nat) "ExactCurves" "clock" "I") ∈ qz_T := qz_mem 267 (by decide +kernel) rfl
theorem wq_224 : (Jvm.Cond.laysFinal "ExactCurves" "ExactCurves" "purses" "LExactCurves$Purses;") ∈ qz_T := qz_mem 268 (by decide +kernel) rfl
theorem wq_226 : (Jvm.Cond.laysFinal "ExactCurves" "ExactCurves" "pools" "[LExactCurves$Pool;") ∈ qz_T := qz_mem 270 (by decide +kernel) rfl
theorem wq_228 : (Jvm.Cond.laysFinal "ExactCurves" "ExactCurves" "marks" "[LExactCurves$Mark;") ∈ qz_T := qz_mem 272 (by decide +kernel) rfl
theorem wq_230 : (Jvm.Cond.laysFinal "ExactCurves" "ExactCurves" "orders" "LExactCurves$Batch;") ∈ qz_T := qz_mem 274 (by decide +kernel) rfl
theorem wq_232 : (Jvm.Cond.laysFinal "ExactCurves" "ExactCurves" "vaults" "[LExactCurves$Vault;") ∈ qz_T := qz_mem 276 (by decide +kernel) rfl
theorem wq_234 : (Jvm.Cond.laysFinal "ExactCurves" "ExactCurves" "loans" "[LExactCurves$Loan;") ∈ qz_T := qz_mem 278 (by decide +kernel) rfl
theorem wq_236 : (Jvm.Cond.lays "ExactCurves" "ExactCurves" "poolCount" "I") ∈ qz_T := qz_mem 280 (by decide +kernel) rfl
theorem wq_238 : (Jvm.Cond.lays "ExactCurves" "ExactCurves" "clock" "I") ∈ qz_T := qz_mem 282 (by decide +kernel) rfl
theorem wq_241 : (Jvm.Cond.methodLink "ExactCurvesLaw" (15 : Nat) ({ cls := "ExactCurves", name := "mint", desc := "(IIJ)J" } : Jvm.MethodName)) ∈ qz_T := qz_mem 285 (by decide +kernel) rfl
theorem wq_242 : (Jvm.Cond.instanceMethod ({ cls := "ExactCurves", name := "mint", desc := "(IIJ)J" } : Jvm.MethodName)) ∈ qz_T := qz_mem 286 (by decide +kernel) rfl
theorem wq_243 : (Jvm.Cond.selects "ExactCurves" ({ cls := "ExactCurves", name := "mint", desc := "(IIJ)J" } : Jvm.MethodName) ({ cls := "ExactCurves", name := "mint", desc := "(IIJ)J" } : Jvm.MethodName)) ∈ qz_T := qz_mem 287 (by decide +kernel) rfl
theorem wq_244 : (Jvm.Cond.code ({ cls := "ExactCurves", name := "mint", desc := "(IIJ)J" } : Jvm.MethodName) prog_1_method_2_code (5 : Nat) (Option.some Jvm.ClassFile.FieldType.long)) ∈ qz_T := qz_mem 288 (by decide +kernel) rfl
theorem wq_245 : (Jvm.Cond.methodLink "ExactCurves" (51 : Nat) ({ cls := "ExactCurves", name := "isPlayer", desc := "(I)Z" } : Jvm.MethodName)) ∈ qz_T := qz_mem 289 (by decide +kernel) rfl
theorem wq_246 : (Jvm.Cond.static ({ cls := "ExactCurves", name := "isPlayer", desc := "(I)Z" } : Jvm.MethodName)) ∈ qz_T := qz_mem 290 (by decide +kernel) rfl
theorem wq_247 : (Jvm.Cond.code ({ cls := "ExactCurves", name := "isPlayer", desc := "(I)Z" } : Jvm.MethodName) prog_1_method_29_code (1 : Nat) (Option.some Jvm.ClassFile.FieldType.boolean)) ∈ qz_T := qz_mem 291 (by decide +kernel) rfl
theorem wq_248 : (Jvm.Cond.methodLink "ExactCurves" (55 : Nat) ({ cls := "ExactCurves", name := "isToken", desc := "(I)Z" } : Jvm.MethodName)) ∈ qz_T := qz_mem 292 (by decide +kernel) rfl
theorem wq_249 : (Jvm.Cond.static ({ cls := "ExactCurves", name := "isToken", desc := "(I)Z" } : Jvm.MethodName)) ∈ qz_T := qz_mem 293 (by decide +kernel) rfl
theorem wq_250 : (Jvm.Cond.code ({ cls := "ExactCurves", name := "isToken", desc := "(I)Z" } : Jvm.MethodName) prog_1_method_30_code (1 : Nat) (Option.some Jvm.ClassFile.FieldType.boolean)) ∈ qz_T := qz_mem 294 (by decide +kernel) rfl
theorem wq_251 : (Jvm.Cond.constantLong "ExactCurves" (58 : Nat) (100000000000000 : Int64)) ∈ qz_T := qz_mem 295 (by decide +kernel) rfl
theorem wq_252 : (Jvm.Cond.constantLong "ExactCurves" (60 : Nat) (-2 : Int64)) ∈ qz_T := qz_mem 296 (by decide +kernel) rfl
theorem wq_253 : (Jvm.Cond.constantLong "ExactCurves" (66 : Nat) (-3 : Int64)) ∈ qz_T := qz_mem 297 (by decide +kernel) rfl
theorem wq_254 : (Jvm.Cond.methodLink "ExactCurves" (68 : Nat) ({ cls := "ExactCurves$Purses", name := "give", desc := "(IIJ)V" } : Jvm.MethodName)) ∈ qz_T := qz_mem 298 (by decide +kernel) rfl
theorem wq_255 : (Jvm.Cond.instanceMethod ({ cls := "ExactCurves$Purses", name := "give", desc := "(IIJ)V" } : Jvm.MethodName)) ∈ qz_T := qz_mem 299 (by decide +kernel) rfl
theorem wq_256 : (Jvm.Cond.selects "ExactCurves$Purses" ({ cls := "ExactCurves$Purses", name := "give", desc := "(IIJ)V" } : Jvm.MethodName) ({ cls := "ExactCurves$Purses", name := "give", desc := "(IIJ)V" } : Jvm.MethodName)) ∈ qz_T := qz_mem 300 (by decide +kernel) rfl
theorem wq_257 : (Jvm.Cond.code ({ cls := "ExactCurves$Purses", name := "give", desc := "(IIJ)V" } : Jvm.MethodName) prog_7_method_3_code (5 : Nat) (Option.none : Option Jvm.ClassFile.FieldType)) ∈ qz_T := qz_mem 301 (by decide +kernel) rfl
theorem wq_258 : (Jvm.Cond.methodLink "ExactCurves" (72 : Nat) ({ cls := "ExactCurves$Purses", name := "held", desc := "(II)J" } : Jvm.MethodName)) ∈ qz_T := qz_mem 302 (by decide +kernel) rfl
theorem wq_259 : (Jvm.Cond.instanceMethod ({ cls := "ExactCurves$Purses", name := "held", desc := "(II)J" } : Jvm.MethodName)) ∈ qz_T := qz_mem 303 (by decide +kernel) rfl
theorem wq_260 : (Jvm.Cond.selects "ExactCurves$Purses" ({ cls := "ExactCurves$Purses", name := "held", desc := "(II)J" } : Jvm.MethodName) ({ cls := "ExactCurves$Purses", name := "held", desc := "(II)J" } : Jvm.MethodName)) ∈ qz_T := qz_mem 304 (by decide +kernel) rfl
theorem wq_261 : (Jvm.Cond.code ({ cls := "ExactCurves$Purses", name := "held", desc := "(II)J" } : Jvm.MethodName) prog_7_method_2_code (3 : Nat) (Option.some Jvm.ClassFile.FieldType.long)) ∈ qz_T := qz_mem 305 (by decide +kernel) rfl
theorem wq_262 : (Jvm.Cond.methodLink "ExactCurvesLaw" (20 : Nat) ({ cls := "ExactCurves", name := "balance", desc := "(II)J" } : Jvm.MethodName)) ∈ qz_T := qz_mem 306 (by decide +kernel) rfl
theorem wq_263 : (Jvm.Cond.instanceMethod ({ cls := "ExactCurves", name := "balance", desc := "(II)J" } : Jvm.MethodName)) ∈ qz_T := qz_mem 307 (by decide +kernel) rfl
theorem wq_264 : (Jvm.Cond.selects "ExactCurves" ({ cls := "ExactCurves", name := "balance", desc := "(II)J" } : Jvm.MethodName) ({ cls := "ExactCurves", name := "balance", desc := "(II)J" } : Jvm.MethodName)) ∈ qz_T := qz_mem 308 (by decide +kernel) rfl
theorem wq_265 : (Jvm.Cond.code ({ cls := "ExactCurves", name := "balance", desc := "(II)J" } : Jvm.MethodName) prog_1_method_3_code (3 : Nat) (Option.some Jvm.ClassFile.FieldType.long)) ∈ qz_T := qz_mem 309 (by decide +kernel) rfl
theorem wq_266 : (Jvm.Cond.methodLink "ExactCurvesLaw" (25 : Nat) ({ cls := "ExactCurves", name := "total", desc := "(I)J" } : Jvm.MethodName)) ∈ qz_T := qz_mem 310 (by decide +kernel) rfl
theorem wq_267 : (Jvm.Cond.instanceMethod ({ cls := "ExactCurves", name := "total", desc := "(I)J" } : Jvm.MethodName)) ∈ qz_T := qz_mem 311 (by decide +kernel) rfl
theorem wq_268 : (Jvm.Cond.selects "ExactCurves" ({ cls := "ExactCurves", name := "total", desc := "(I)J" } : Jvm.MethodName) ({ cls := "ExactCurves", name := "total", desc := "(I)J" } : Jvm.MethodName)) ∈ qz_T := qz_mem 312 (by decide +kernel) rfl
theorem wq_269 : (Jvm.Cond.code ({ cls := "ExactCurves", name := "total", desc := "(I)J" } : Jvm.MethodName) prog_1_method_4_code (2 : Nat) (Option.some Jvm.ClassFile.FieldType.long)) ∈ qz_T := qz_mem 313 (by decide +kernel) rfl
theorem wq_270 : (Jvm.Cond.methodLink "ExactCurvesLaw" (30 : Nat) ({ cls := "ExactCurves", name := "house", desc := "(I)J" } : Jvm.MethodName)) ∈ qz_T := qz_mem 314 (by decide +kernel) rfl
theorem wq_271 : (Jvm.Cond.instanceMethod ({ cls := "ExactCurves", name := "house", desc := "(I)J" } : Jvm.MethodName)) ∈ qz_T := qz_mem 315 (by decide +kernel) rfl
theorem wq_272 : (Jvm.Cond.selects "ExactCurves" ({ cls := "ExactCurves", name := "house", desc := "(I)J" } : Jvm.MethodName) ({ cls := "ExactCurves", name := "house", desc := "(I)J" } : Jvm.MethodName)) ∈ qz_T := qz_mem 316 (by decide +kernel) rfl
theorem wq_273 : (Jvm.Cond.code ({ cls := "ExactCurves", name := "house", desc := "(I)J" } : Jvm.MethodName) prog_1_method_5_code (2 : Nat) (Option.some Jvm.ClassFile.FieldType.long)) ∈ qz_T := qz_mem 317 (by decide +kernel) rfl
theorem wq_274 : (Jvm.Cond.methodLink "ExactCurvesLaw" (34 : Nat) ({ cls := "ExactCurves", name := "pool", desc := "(IIII)I" } : Jvm.MethodName)) ∈ qz_T := qz_mem 318 (by decide +kernel) rfl
theorem wq_275 : (Jvm.Cond.instanceMethod ({ cls := "ExactCurves", name := "pool", desc := "(IIII)I" } : Jvm.MethodName)) ∈ qz_T := qz_mem 319 (by decide +kernel) rfl
theorem wq_276 : (Jvm.Cond.selects "ExactCurves" ({ cls := "ExactCurves", name := "pool", desc := "(IIII)I" } : Jvm.MethodName) ({ cls := "ExactCurves", name := "pool", desc := "(IIII)I" } : Jvm.MethodName)) ∈ qz_T := qz_mem 320 (by decide +kernel) rfl
theorem wq_277 : (Jvm.Cond.code ({ cls := "ExactCurves", name := "pool", desc := "(IIII)I" } : Jvm.MethodName) prog_1_method_6_code (6 : Nat) (Option.some Jvm.ClassFile.FieldType.int)) ∈ qz_T := qz_mem 321 (by decide +kernel) rfl
theorem wq_278 : (Jvm.Cond.methodLink "ExactCurvesLaw" (39 : Nat) ({ cls := "ExactCurves", name := "of", desc := "(II)J" } : Jvm.MethodName)) ∈ qz_T := qz_mem 322 (by decide +kernel) rfl
theorem wq_279 : (Jvm.Cond.instanceMethod ({ cls := "ExactCurves", name := "of", desc := "(II)J" } : Jvm.MethodName)) ∈ qz_T := qz_mem 323 (by decide +kernel) rfl
theorem wq_280 : (Jvm.Cond.selects "ExactCurves" ({ cls := "ExactCurves", name := "of", desc := "(II)J" } : Jvm.MethodName) ({ cls := "ExactCurves", name := "of", desc := "(II)J" } : Jvm.MethodName)) ∈ qz_T := qz_mem 324 (by decide +kernel) rfl
theorem wq_281 : (Jvm.Cond.code ({ cls := "ExactCurves", name := "of", desc := "(II)J" } : Jvm.MethodName) prog_1_method_7_code (4 : Nat) (Option.some Jvm.ClassFile.FieldType.long)) ∈ qz_T := qz_mem 325 (by decide +kernel) rfl
theorem wq_282 : (Jvm.Cond.methodLink "ExactCurves" (95 : Nat) ({ cls := "ExactCurves", name := "poolAt", desc := "(I)LExactCurves$Pool;" } : Jvm.MethodName)) ∈ qz_T := qz_mem 326 (by decide +kernel) rfl
theorem wq_284 : (Jvm.Cond.instanceMethod ({ cls := "ExactCurves", name := "poolAt", desc := "(I)LExactCurves$Pool;" } : Jvm.MethodName)) ∈ qz_T := qz_mem 328 (by decide +kernel) rfl
theorem wq_285 : (Jvm.Cond.code ({ cls := "ExactCurves", name := "poolAt", desc := "(I)LExactCurves$Pool;" } : Jvm.MethodName) prog_1_method_32_code (2 : Nat) (Option.some (Jvm.ClassFile.FieldType.object "ExactCurves$Pool"))) ∈ qz_T := qz_mem 329 (by decide +kernel) rfl
theorem wq_286 : (Jvm.Cond.methodLink "ExactCurves" (99 : Nat) ({ cls := "ExactCurves$Pool", name := "told", desc := "(I)J" } : Jvm.MethodName)) ∈ qz_T := qz_mem 330 (by decide +kernel) rfl
theorem wq_287 : (Jvm.Cond.instanceMethod ({ cls := "ExactCurves$Pool", name := "told", desc := "(I)J" } : Jvm.MethodName)) ∈ qz_T := qz_mem 331 (by decide +kernel) rfl
theorem wq_288 : (Jvm.Cond.selects "ExactCurves$Pool" ({ cls := "ExactCurves$Pool", name := "told", desc := "(I)J" } : Jvm.MethodName) ({ cls := "ExactCurves$Pool", name := "told", desc := "(I)J" } : Jvm.MethodName)) ∈ qz_T := qz_mem 332 (by decide +kernel) rfl
theorem wq_289 : (Jvm.Cond.code ({ cls := "ExactCurves$Pool", name := "told", desc := "(I)J" } : Jvm.MethodName) prog_6_method_6_code (2 : Nat) (Option.some Jvm.ClassFile.FieldType.long)) ∈ qz_T := qz_mem 333 (by decide +kernel) rfl
theorem wq_290 : (Jvm.Cond.constantLong "ExactCurves$Pool" (44 : Nat) (-2 : Int64)) ∈ qz_T := qz_mem 334 (by decide +kernel) rfl
theorem wq_291 : (Jvm.Cond.methodLink "ExactCurvesLaw" (43 : Nat) ({ cls := "ExactCurves", name := "join", desc := "(IIJJ)J" } : Jvm.MethodName)) ∈ qz_T := qz_mem 335 (by decide +kernel) rfl
theorem wq_292 : (Jvm.Cond.instanceMethod ({ cls := "ExactCurves", name := "join", desc := "(IIJJ)J" } : Jvm.MethodName)) ∈ qz_T := qz_mem 336 (by decide +kernel) rfl
theorem wq_293 : (Jvm.Cond.selects "ExactCurves" ({ cls := "ExactCurves", name := "join", desc := "(IIJJ)J" } : Jvm.MethodName) ({ cls := "ExactCurves", name := "join", desc := "(IIJJ)J" } : Jvm.MethodName)) ∈ qz_T := qz_mem 337 (by decide +kernel) rfl
theorem wq_294 : (Jvm.Cond.code ({ cls := "ExactCurves", name := "join", desc := "(IIJJ)J" } : Jvm.MethodName) prog_1_method_8_code (15 : Nat) (Option.some Jvm.ClassFile.FieldType.long)) ∈ qz_T := qz_mem 338 (by decide +kernel) rfl
theorem wq_295 : (Jvm.Cond.methodLink "ExactCurves" (103 : Nat) ({ cls := "ExactCurves$Pool", name := "sharesFor", desc := "(JJ)J" } : Jvm.MethodName)) ∈ qz_T := qz_mem 339 (by decide +kernel) rfl
theorem wq_296 : (Jvm.Cond.instanceMethod ({ cls := "ExactCurves$Pool", name := "sharesFor", desc := "(JJ)J" } : Jvm.MethodName)) ∈ qz_T := qz_mem 340 (by decide +kernel) rfl
theorem wq_297 : (Jvm.Cond.selects "ExactCurves$Pool" ({ cls := "ExactCurves$Pool", name := "sharesFor", desc := "(JJ)J" } : Jvm.MethodName) ({ cls := "ExactCurves$Pool", name := "sharesFor", desc := "(JJ)J" } : Jvm.MethodName)) ∈ qz_T := qz_mem 341 (by decide +kernel) rfl
theorem wq_298 : (Jvm.Cond.code ({ cls := "ExactCurves$Pool", name := "sharesFor", desc := "(JJ)J" } : Jvm.MethodName) prog_6_method_7_code (5 : Nat) (Option.some Jvm.ClassFile.FieldType.long)) ∈ qz_T := qz_mem 342 (by decide +kernel) rfl
theorem wq_299 : (Jvm.Cond.methodLink "ExactCurves$Pool" (46 : Nat) ({ cls := "ExactCurves$Exact", name := "rootOfProduct", desc := "(JJ)J" } : Jvm.MethodName)) ∈ qz_T := qz_mem 343 (by decide +kernel) rfl
theorem wq_300 : (Jvm.Cond.static ({ cls := "ExactCurves$Exact", name := "rootOfProduct", desc := "(JJ)J" } : Jvm.MethodName)) ∈ qz_T := qz_mem 344 (by decide +kernel) rfl
theorem wq_301 : (Jvm.Cond.code ({ cls := "ExactCurves$Exact", name := "rootOfProduct", desc := "(JJ)J" } : Jvm.MethodName) prog_3_method_7_code (8 : Nat) (Option.some Jvm.ClassFile.FieldType.long)) ∈ qz_T := qz_mem 345 (by decide +kernel) rfl
theorem wq_302 : (Jvm.Cond.constantLong "ExactCurves$Exact" (32 : Nat) (70368744177664 : Int64)) ∈ qz_T := qz_mem 346 (by decide +kernel) rfl
theorem wq_303 : (Jvm.Cond.methodLink "ExactCurves$Exact" (34 : Nat) ({ cls := "ExactCurves$Exact", name := "compareProducts", desc := "(JJJJ)I" } : Jvm.MethodName)) ∈ qz_T := qz_mem 347 (by decide +kernel) rfl
theorem wq_304 : (Jvm.Cond.static ({ cls := "ExactCurves$Exact", name := "compareProducts", desc := "(JJJJ)I" } : Jvm.MethodName)) ∈ qz_T := qz_mem 348 (by decide +kernel) rfl
theorem wq_305 : (Jvm.Cond.code ({ cls := "ExactCurves$Exact", name := "compareProducts", desc := "(JJJJ)I" } : Jvm.MethodName) prog_3_method_6_code (9 : Nat) (Option.some Jvm.ClassFile.FieldType.int)) ∈ qz_T := qz_mem 349 (by decide +kernel) rfl
theorem wq_306 : (Jvm.Cond.methodLink "ExactCurves$Exact" (15 : Nat) ({ cls := "ExactCurves$Exact", name := "highOf", desc := "(JJ)J" } : Jvm.MethodName)) ∈ qz_T := qz_mem 350 (by decide +kernel) rfl
theorem wq_307 : (Jvm.Cond.static ({ cls := "ExactCurves$Exact", name := "highOf", desc := "(JJ)J" } : Jvm.MethodName)) ∈ qz_T := qz_mem 351 (by decide +kernel) rfl
theorem wq_308 : (Jvm.Cond.code ({ cls := "ExactCurves$Exact", name := "highOf", desc := "(JJ)J" } : Jvm.MethodName) prog_3_method_2_code (16 : Nat) (Option.some Jvm.ClassFile.FieldType.long)) ∈ qz_T := qz_mem 352 (by decide +kernel) rfl
theorem wq_309 : (Jvm.Cond.constantLong "ExactCurves$Exact" (9 : Nat) (4294967295 : Int64)) ∈ qz_T := qz_mem 353 (by decide +kernel) rfl
theorem wq_310 : (Jvm.Cond.methodLink "ExactCurves$Exact" (26 : Nat) ({ cls := "java/lang/Long", name := "compare", desc := "(JJ)I" } : Jvm.MethodName)) ∈ qz_T := qz_mem 354 (by decide +kernel) rfl
theorem wq_311 : (Jvm.Cond.static ({ cls := "java/lang/Long", name := "compare", desc := "(JJ)I" } : Jvm.MethodName)) ∈ qz_T := qz_mem 355 (by decide +kernel) rfl
theorem wq_312 : (Jvm.Cond.code ({ cls := "java/lang/Long", name := "compare", desc := "(JJ)I" } : Jvm.MethodName) prog_11_method_42_code (4 : Nat) (Option.some Jvm.ClassFile.FieldType.int)) ∈ qz_T := qz_mem 356 (by decide +kernel) rfl
theorem wq_313 : (Jvm.Cond.constantLong "ExactCurves$Exact" (30 : Nat) (-9223372036854775808 : Int64)) ∈ qz_T := qz_mem 357 (by decide +kernel) rfl
theorem wq_314 : (Jvm.Cond.methodLink "ExactCurves$Pool" (52 : Nat) ({ cls := "ExactCurves$Pool", name := "sharesBy", desc := "(JJ)J" } : Jvm.MethodName)) ∈ qz_T := qz_mem 358 (by decide +kernel) rfl
theorem wq_316 : (Jvm.Cond.instanceMethod ({ cls := "ExactCurves$Pool", name := "sharesBy", desc := "(JJ)J" } : Jvm.MethodName)) ∈ qz_T := qz_mem 360 (by decide +kernel) rfl
theorem wq_317 : (Jvm.Cond.code ({ cls := "ExactCurves$Pool", name := "sharesBy", desc := "(JJ)J" } : Jvm.MethodName) prog_6_method_8_code (5 : Nat) (Option.some Jvm.ClassFile.FieldType.long)) ∈ qz_T := qz_mem 361 (by decide +kernel) rfl
theorem wq_318 : (Jvm.Cond.constantLong "ExactCurves$Pool" (62 : Nat) (9223372036854775807 : Int64)) ∈ qz_T := qz_mem 362 (by decide +kernel) rfl
theorem wq_319 : (Jvm.Cond.methodLink "ExactCurves$Pool" (64 : Nat) ({ cls := "ExactCurves$Exact", name := "timesOver", desc := "(JJJ)J" } : Jvm.MethodName)) ∈ qz_T := qz_mem 363 (by decide +kernel) rfl
theorem wq_320 : (Jvm.Cond.static ({ cls := "ExactCurves$Exact", name := "timesOver", desc := "(JJJ)J" } : Jvm.MethodName)) ∈ qz_T := qz_mem 364 (by decide +kernel) rfl
theorem wq_321 : (Jvm.Cond.code ({ cls := "ExactCurves$Exact", name := "timesOver", desc := "(JJJ)J" } : Jvm.MethodName) prog_3_method_4_code (6 : Nat) (Option.some Jvm.ClassFile.FieldType.long)) ∈ qz_T := qz_mem 365 (by decide +kernel) rfl
theorem wq_322 : (Jvm.Cond.methodLink "ExactCurves$Exact" (19 : Nat) ({ cls := "ExactCurves$Exact", name := "over", desc := "(JJJ)J" } : Jvm.MethodName)) ∈ qz_T := qz_mem 366 (by decide +kernel) rfl
theorem wq_323 : (Jvm.Cond.static ({ cls := "ExactCurves$Exact", name := "over", desc := "(JJJ)J" } : Jvm.MethodName)) ∈ qz_T := qz_mem 367 (by decide +kernel) rfl
theorem wq_324 : (Jvm.Cond.code ({ cls := "ExactCurves$Exact", name := "over", desc := "(JJJ)J" } : Jvm.MethodName) prog_3_method_3_code (11 : Nat) (Option.some Jvm.ClassFile.FieldType.long)) ∈ qz_T := qz_mem 368 (by decide +kernel) rfl
theorem wq_325 : (Jvm.Cond.constantLong "ExactCurves$Exact" (13 : Nat) (9223372036854775807 : Int64)) ∈ qz_T := qz_mem 369 (by decide +kernel) rfl
theorem wq_326 : (Jvm.Cond.methodLink "ExactCurves$Pool" (55 : Nat) ({ cls := "java/lang/Math", name := "min", desc := "(JJ)J" } : Jvm.MethodName)) ∈ qz_T := qz_mem 370 (by decide +kernel) rfl
theorem wq_327 : (Jvm.Cond.static ({ cls := "java/lang/Math", name := "min", desc := "(JJ)J" } : Jvm.MethodName)) ∈ qz_T := qz_mem 371 (by decide +kernel) rfl
theorem wq_329 : (Jvm.Cond.methodLink "ExactCurves" (111 : Nat) ({ cls := "ExactCurves$Pool", name := "costOf", desc := "(JI)J" } : Jvm.MethodName)) ∈ qz_T := qz_mem 373 (by decide +kernel) rfl
theorem wq_330 : (Jvm.Cond.instanceMethod ({ cls := "ExactCurves$Pool", name := "costOf", desc := "(JI)J" } : Jvm.MethodName)) ∈ qz_T := qz_mem 374 (by decide +kernel) rfl
theorem wq_331 : (Jvm.Cond.selects "ExactCurves$Pool" ({ cls := "ExactCurves$Pool", name := "costOf", desc := "(JI)J" } : Jvm.MethodName) ({ cls := "ExactCurves$Pool", name := "costOf", desc := "(JI)J" } : Jvm.MethodName)) ∈ qz_T := qz_mem 375 (by decide +kernel) rfl
theorem wq_332 : (Jvm.Cond.code ({ cls := "ExactCurves$Pool", name := "costOf", desc := "(JI)J" } : Jvm.MethodName) prog_6_method_9_code (4 : Nat) (Option.some Jvm.ClassFile.FieldType.long)) ∈ qz_T := qz_mem 376 (by decide +kernel) rfl
theorem wq_333 : (Jvm.Cond.methodLink "ExactCurves$Pool" (68 : Nat) ({ cls := "ExactCurves$Pool", name := "reserveAt", desc := "(I)J" } : Jvm.MethodName)) ∈ qz_T := qz_mem 377 (by decide +kernel) rfl
theorem wq_334 : (Jvm.Cond.instanceMethod ({ cls := "ExactCurves$Pool", name := "reserveAt", desc := "(I)J" } : Jvm.MethodName)) ∈ qz_T := qz_mem 378 (by decide +kernel) rfl
theorem wq_335 : (Jvm.Cond.selects "ExactCurves$Pool" ({ cls := "ExactCurves$Pool", name := "reserveAt", desc := "(I)J" } : Jvm.MethodName) ({ cls := "ExactCurves$Pool", name := "reserveAt", desc := "(I)J" } : Jvm.MethodName)) ∈ qz_T := qz_mem 379 (by decide +kernel) rfl
theorem wq_336 : (Jvm.Cond.code ({ cls := "ExactCurves$Pool", name := "reserveAt", desc := "(I)J" } : Jvm.MethodName) prog_6_method_3_code (2 : Nat) (Option.some Jvm.ClassFile.FieldType.long)) ∈ qz_T := qz_mem 380 (by decide +kernel) rfl
theorem wq_337 : (Jvm.Cond.methodLink "ExactCurves$Pool" (72 : Nat) ({ cls := "ExactCurves$Exact", name := "timesOverUp", desc := "(JJJ)J" } : Jvm.MethodName)) ∈ qz_T := qz_mem 381 (by decide +kernel) rfl
theorem wq_338 : (Jvm.Cond.static ({ cls := "ExactCurves$Exact", name := "timesOverUp", desc := "(JJJ)J" } : Jvm.MethodName)) ∈ qz_T := qz_mem 382 (by decide +kernel) rfl
theorem wq_339 : (Jvm.Cond.code ({ cls := "ExactCurves$Exact", name := "timesOverUp", desc := "(JJJ)J" } : Jvm.MethodName) prog_3_method_5_code (9 : Nat) (Option.some Jvm.ClassFile.FieldType.long)) ∈ qz_T := qz_mem 383 (by decide +kernel) rfl
theorem wq_340 : (Jvm.Cond.methodLink "ExactCurves$Exact" (23 : Nat) ({ cls := "ExactCurves$Exact", name := "timesOver", desc := "(JJJ)J" } : Jvm.MethodName)) ∈ qz_T := qz_mem 384 (by decide +kernel) rfl
theorem wq_341 : (Jvm.Cond.methodLink "ExactCurves" (115 : Nat) ({ cls := "ExactCurves", name := "bringIn", desc := "(ILExactCurves$Pool;IJ)V" } : Jvm.MethodName)) ∈ qz_T := qz_mem 385 (by decide +kernel) rfl
theorem wq_343 : (Jvm.Cond.instanceMethod ({ cls := "ExactCurves", name := "bringIn", desc := "(ILExactCurves$Pool;IJ)V" } : Jvm.MethodName)) ∈ qz_T := qz_mem 387 (by decide +kernel) rfl
theorem wq_344 : (Jvm.Cond.code ({ cls := "ExactCurves", name := "bringIn", desc := "(ILExactCurves$Pool;IJ)V" } : Jvm.MethodName) prog_1_method_33_code (6 : Nat) (Option.none : Option Jvm.ClassFile.FieldType)) ∈ qz_T := qz_mem 388 (by decide +kernel) rfl
theorem wq_345 : (Jvm.Cond.methodLink "ExactCurves" (135 : Nat) ({ cls := "ExactCurves$Pool", name := "tokenAt", desc := "(I)I" } : Jvm.MethodName)) ∈ qz_T := qz_mem 389 (by decide +kernel) rfl
theorem wq_346 : (Jvm.Cond.instanceMethod ({ cls := "ExactCurves$Pool", name := "tokenAt", desc := "(I)I" } : Jvm.MethodName)) ∈ qz_T := qz_mem 390 (by decide +kernel) rfl
theorem wq_347 : (Jvm.Cond.selects "ExactCurves$Pool" ({ cls := "ExactCurves$Pool", name := "tokenAt", desc := "(I)I" } : Jvm.MethodName) ({ cls := "ExactCurves$Pool", name := "tokenAt", desc := "(I)I" } : Jvm.MethodName)) ∈ qz_T := qz_mem 391 (by decide +kernel) rfl
theorem wq_348 : (Jvm.Cond.code ({ cls := "ExactCurves$Pool", name := "tokenAt", desc := "(I)I" } : Jvm.MethodName) prog_6_method_2_code (2 : Nat) (Option.some Jvm.ClassFile.FieldType.int)) ∈ qz_T := qz_mem 392 (by decide +kernel) rfl
theorem wq_349 : (Jvm.Cond.methodLink "ExactCurves" (200 : Nat) ({ cls := "ExactCurves$Purses", name := "take", desc := "(IIJ)V" } : Jvm.MethodName)) ∈ qz_T := qz_mem 393 (by decide +kernel) rfl
theorem wq_350 : (Jvm.Cond.instanceMethod ({ cls := "ExactCurves$Purses", name := "take", desc := "(IIJ)V" } : Jvm.MethodName)) ∈ qz_T := qz_mem 394 (by decide +kernel) rfl
theorem wq_351 : (Jvm.Cond.selects "ExactCurves$Purses" ({ cls := "ExactCurves$Purses", name := "take", desc := "(IIJ)V" } : Jvm.MethodName) ({ cls := "ExactCurves$Purses", name := "take", desc := "(IIJ)V" } : Jvm.MethodName)) ∈ qz_T := qz_mem 395 (by decide +kernel) rfl
theorem wq_352 : (Jvm.Cond.code ({ cls := "ExactCurves$Purses", name := "take", desc := "(IIJ)V" } : Jvm.MethodName) prog_7_method_4_code (5 : Nat) (Option.none : Option Jvm.ClassFile.FieldType)) ∈ qz_T := qz_mem 396 (by decide +kernel) rfl
theorem wq_353 : (Jvm.Cond.methodLink "ExactCurves" (330 : Nat) ({ cls := "ExactCurves$Pool", name := "addReserve", desc := "(IJ)V" } : Jvm.MethodName)) ∈ qz_T := qz_mem 397 (by decide +kernel) rfl
theorem wq_354 : (Jvm.Cond.instanceMethod ({ cls := "ExactCurves$Pool", name := "addReserve", desc := "(IJ)V" } : Jvm.MethodName)) ∈ qz_T := qz_mem 398 (by decide +kernel) rfl
theorem wq_355 : (Jvm.Cond.selects "ExactCurves$Pool" ({ cls := "ExactCurves$Pool", name := "addReserve", desc := "(IJ)V" } : Jvm.MethodName) ({ cls := "ExactCurves$Pool", name := "addReserve", desc := "(IJ)V" } : Jvm.MethodName)) ∈ qz_T := qz_mem 399 (by decide +kernel) rfl
theorem wq_356 : (Jvm.Cond.code ({ cls := "ExactCurves$Pool", name := "addReserve", desc := "(IJ)V" } : Jvm.MethodName) prog_6_method_4_code (4 : Nat) (Option.none : Option Jvm.ClassFile.FieldType)) ∈ qz_T := qz_mem 400 (by decide +kernel) rfl
theorem wq_357 : (Jvm.Cond.methodLink "ExactCurves" (119 : Nat) ({ cls := "ExactCurves$Pool", name := "addShares", desc := "(IJ)V" } : Jvm.MethodName)) ∈ qz_T := qz_mem 401 (by decide +kernel) rfl
theorem wq_358 : (Jvm.Cond.instanceMethod ({ cls := "ExactCurves$Pool", name := "addShares", desc := "(IJ)V" } : Jvm.MethodName)) ∈ qz_T := qz_mem 402 (by decide +kernel) rfl
theorem wq_359 : (Jvm.Cond.selects "ExactCurves$Pool" ({ cls := "ExactCurves$Pool", name := "addShares", desc := "(IJ)V" } : Jvm.MethodName) ({ cls := "ExactCurves$Pool", name := "addShares", desc := "(IJ)V" } : Jvm.MethodName)) ∈ qz_T := qz_mem 403 (by decide +kernel) rfl
theorem wq_360 : (Jvm.Cond.code ({ cls := "ExactCurves$Pool", name := "addShares", desc := "(IJ)V" } : Jvm.MethodName) prog_6_method_5_code (4 : Nat) (Option.none : Option Jvm.ClassFile.FieldType)) ∈ qz_T := qz_mem 404 (by decide +kernel) rfl
theorem wq_361 : (Jvm.Cond.methodLink "ExactCurvesLaw" (48 : Nat) ({ cls := "ExactCurves", name := "leave", desc := "(IIJ)J" } : Jvm.MethodName)) ∈ qz_T := qz_mem 405 (by decide +kernel) rfl
theorem wq_362 : (Jvm.Cond.instanceMethod ({ cls := "ExactCurves", name := "leave", desc := "(IIJ)J" } : Jvm.MethodName)) ∈ qz_T := qz_mem 406 (by decide +kernel) rfl
theorem wq_363 : (Jvm.Cond.selects "ExactCurves" ({ cls := "ExactCurves", name := "leave", desc := "(IIJ)J" } : Jvm.MethodName) ({ cls := "ExactCurves", name := "leave", desc := "(IIJ)J" } : Jvm.MethodName)) ∈ qz_T := qz_mem 407 (by decide +kernel) rfl
theorem wq_364 : (Jvm.Cond.code ({ cls := "ExactCurves", name := "leave", desc := "(IIJ)J" } : Jvm.MethodName) prog_1_method_9_code (10 : Nat) (Option.some Jvm.ClassFile.FieldType.long)) ∈ qz_T := qz_mem 408 (by decide +kernel) rfl
theorem wq_365 : (Jvm.Cond.methodLink "ExactCurves" (126 : Nat) ({ cls := "ExactCurves$Pool", name := "payOf", desc := "(JI)J" } : Jvm.MethodName)) ∈ qz_T := qz_mem 409 (by decide +kernel) rfl
theorem wq_366 : (Jvm.Cond.instanceMethod ({ cls := "ExactCurves$Pool", name := "payOf", desc := "(JI)J" } : Jvm.MethodName)) ∈ qz_T := qz_mem 410 (by decide +kernel) rfl
theorem wq_367 : (Jvm.Cond.selects "ExactCurves$Pool" ({ cls := "ExactCurves$Pool", name := "payOf", desc := "(JI)J" } : Jvm.MethodName) ({ cls := "ExactCurves$Pool", name := "payOf", desc := "(JI)J" } : Jvm.MethodName)) ∈ qz_T := qz_mem 411 (by decide +kernel) rfl
theorem wq_368 : (Jvm.Cond.code ({ cls := "ExactCurves$Pool", name := "payOf", desc := "(JI)J" } : Jvm.MethodName) prog_6_method_10_code (4 : Nat) (Option.some Jvm.ClassFile.FieldType.long)) ∈ qz_T := qz_mem 412 (by decide +kernel) rfl
theorem wq_369 : (Jvm.Cond.methodLink "ExactCurves" (129 : Nat) ({ cls := "ExactCurves", name := "takeOut", desc := "(ILExactCurves$Pool;IJ)V" } : Jvm.MethodName)) ∈ qz_T := qz_mem 413 (by decide +kernel) rfl
theorem wq_371 : (Jvm.Cond.instanceMethod ({ cls := "ExactCurves", name := "takeOut", desc := "(ILExactCurves$Pool;IJ)V" } : Jvm.MethodName)) ∈ qz_T := qz_mem 415 (by decide +kernel) rfl
theorem wq_372 : (Jvm.Cond.code ({ cls := "ExactCurves", name := "takeOut", desc := "(ILExactCurves$Pool;IJ)V" } : Jvm.MethodName) prog_1_method_34_code (6 : Nat) (Option.none : Option Jvm.ClassFile.FieldType)) ∈ qz_T := qz_mem 416 (by decide +kernel) rfl
theorem wq_373 : (Jvm.Cond.methodLink "ExactCurvesLaw" (52 : Nat) ({ cls := "ExactCurves", name := "swap", desc := "(IIIJ)J" } : Jvm.MethodName)) ∈ qz_T := qz_mem 417 (by decide +kernel) rfl
theorem wq_374 : (Jvm.Cond.instanceMethod ({ cls := "ExactCurves", name := "swap", desc := "(IIIJ)J" } : Jvm.MethodName)) ∈ qz_T := qz_mem 418 (by decide +kernel) rfl
theorem wq_375 : (Jvm.Cond.selects "ExactCurves" ({ cls := "ExactCurves", name := "swap", desc := "(IIIJ)J" } : Jvm.MethodName) ({ cls := "ExactCurves", name := "swap", desc := "(IIIJ)J" } : Jvm.MethodName)) ∈ qz_T := qz_mem 419 (by decide +kernel) rfl
theorem wq_376 : (Jvm.Cond.code ({ cls := "ExactCurves", name := "swap", desc := "(IIIJ)J" } : Jvm.MethodName) prog_1_method_10_code (9 : Nat) (Option.some Jvm.ClassFile.FieldType.long)) ∈ qz_T := qz_mem 420 (by decide +kernel) rfl
theorem wq_377 : (Jvm.Cond.methodLink "ExactCurves" (132 : Nat) ({ cls := "ExactCurves", name := "isSide", desc := "(I)Z" } : Jvm.MethodName)) ∈ qz_T := qz_mem 421 (by decide +kernel) rfl
theorem wq_378 : (Jvm.Cond.static ({ cls := "ExactCurves", name := "isSide", desc := "(I)Z" } : Jvm.MethodName)) ∈ qz_T := qz_mem 422 (by decide +kernel) rfl
theorem wq_379 : (Jvm.Cond.code ({ cls := "ExactCurves", name := "isSide", desc := "(I)Z" } : Jvm.MethodName) prog_1_method_31_code (1 : Nat) (Option.some Jvm.ClassFile.FieldType.boolean)) ∈ qz_T := qz_mem 423 (by decide +kernel) rfl
theorem wq_380 : (Jvm.Cond.methodLink "ExactCurves" (139 : Nat) ({ cls := "ExactCurves$Pool", name := "outputOf", desc := "(IJ)J" } : Jvm.MethodName)) ∈ qz_T := qz_mem 424 (by decide +kernel) rfl
theorem wq_381 : (Jvm.Cond.instanceMethod ({ cls := "ExactCurves$Pool", name := "outputOf", desc := "(IJ)J" } : Jvm.MethodName)) ∈ qz_T := qz_mem 425 (by decide +kernel) rfl
theorem wq_382 : (Jvm.Cond.selects "ExactCurves$Pool" ({ cls := "ExactCurves$Pool", name := "outputOf", desc := "(IJ)J" } : Jvm.MethodName) ({ cls := "ExactCurves$Pool", name := "outputOf", desc := "(IJ)J" } : Jvm.MethodName)) ∈ qz_T := qz_mem 426 (by decide +kernel) rfl
theorem wq_383 : (Jvm.Cond.code ({ cls := "ExactCurves$Pool", name := "outputOf", desc := "(IJ)J" } : Jvm.MethodName) prog_6_method_11_code (12 : Nat) (Option.some Jvm.ClassFile.FieldType.long)) ∈ qz_T := qz_mem 427 (by decide +kernel) rfl
theorem wq_384 : (Jvm.Cond.constantLong "ExactCurves$Pool" (75 : Nat) (10000 : Int64)) ∈ qz_T := qz_mem 428 (by decide +kernel) rfl
theorem wq_385 : (Jvm.Cond.methodLink "ExactCurvesLaw" (57 : Nat) ({ cls := "ExactCurves", name := "quote", desc := "(IIJ)J" } : Jvm.MethodName)) ∈ qz_T := qz_mem 429 (by decide +kernel) rfl
theorem wq_386 : (Jvm.Cond.instanceMethod ({ cls := "ExactCurves", name := "quote", desc := "(IIJ)J" } : Jvm.MethodName)) ∈ qz_T := qz_mem 430 (by decide +kernel) rfl
theorem wq_387 : (Jvm.Cond.selects "ExactCurves" ({ cls := "ExactCurves", name := "quote", desc := "(IIJ)J" } : Jvm.MethodName) ({ cls := "ExactCurves", name := "quote", desc := "(IIJ)J" } : Jvm.MethodName)) ∈ qz_T := qz_mem 431 (by decide +kernel) rfl
theorem wq_388 : (Jvm.Cond.code ({ cls := "ExactCurves", name := "quote", desc := "(IIJ)J" } : Jvm.MethodName) prog_1_method_11_code (8 : Nat) (Option.some Jvm.ClassFile.FieldType.long)) ∈ qz_T := qz_mem 432 (by decide +kernel) rfl
theorem wq_389 : (Jvm.Cond.methodLink "ExactCurvesLaw" (61 : Nat) ({ cls := "ExactCurves", name := "flash", desc := "(IIJJJJ)I" } : Jvm.MethodName)) ∈ qz_T := qz_mem 433 (by decide +kernel) rfl
theorem wq_390 : (Jvm.Cond.instanceMethod ({ cls := "ExactCurves", name := "flash", desc := "(IIJJJJ)I" } : Jvm.MethodName)) ∈ qz_T := qz_mem 434 (by decide +kernel) rfl
theorem wq_391 : (Jvm.Cond.selects "ExactCurves" ({ cls := "ExactCurves", name := "flash", desc := "(IIJJJJ)I" } : Jvm.MethodName) ({ cls := "ExactCurves", name := "flash", desc := "(IIJJJJ)I" } : Jvm.MethodName)) ∈ qz_T := qz_mem 435 (by decide +kernel) rfl
theorem wq_392 : (Jvm.Cond.code ({ cls := "ExactCurves", name := "flash", desc := "(IIJJJJ)I" } : Jvm.MethodName) prog_1_method_12_code (12 : Nat) (Option.some Jvm.ClassFile.FieldType.int)) ∈ qz_T := qz_mem 436 (by decide +kernel) rfl
theorem wq_393 : (Jvm.Cond.methodLink "ExactCurves" (149 : Nat) ({ cls := "ExactCurves$Pool", name := "mayBecome", desc := "(JJJJ)Z" } : Jvm.MethodName)) ∈ qz_T := qz_mem 437 (by decide +kernel) rfl
theorem wq_394 : (Jvm.Cond.instanceMethod ({ cls := "ExactCurves$Pool", name := "mayBecome", desc := "(JJJJ)Z" } : Jvm.MethodName)) ∈ qz_T := qz_mem 438 (by decide +kernel) rfl
theorem wq_395 : (Jvm.Cond.selects "ExactCurves$Pool" ({ cls := "ExactCurves$Pool", name := "mayBecome", desc := "(JJJJ)Z" } : Jvm.MethodName) ({ cls := "ExactCurves$Pool", name := "mayBecome", desc := "(JJJJ)Z" } : Jvm.MethodName)) ∈ qz_T := qz_mem 439 (by decide +kernel) rfl
theorem wq_396 : (Jvm.Cond.code ({ cls := "ExactCurves$Pool", name := "mayBecome", desc := "(JJJJ)Z" } : Jvm.MethodName) prog_6_method_12_code (13 : Nat) (Option.some Jvm.ClassFile.FieldType.boolean)) ∈ qz_T := qz_mem 440 (by decide +kernel) rfl
theorem wq_397 : (Jvm.Cond.methodLink "ExactCurves$Pool" (77 : Nat) ({ cls := "ExactCurves$Exact", name := "compareProducts", desc := "(JJJJ)I" } : Jvm.MethodName)) ∈ qz_T := qz_mem 441 (by decide +kernel) rfl
theorem wq_398 : (Jvm.Cond.methodLink "ExactCurvesLaw" (66 : Nat) ({ cls := "ExactCurves", name := "tick", desc := "(I)I" } : Jvm.MethodName)) ∈ qz_T := qz_mem 442 (by decide +kernel) rfl
theorem wq_399 : (Jvm.Cond.instanceMethod ({ cls := "ExactCurves", name := "tick", desc := "(I)I" } : Jvm.MethodName)) ∈ qz_T := qz_mem 443 (by decide +kernel) rfl
theorem wq_400 : (Jvm.Cond.selects "ExactCurves" ({ cls := "ExactCurves", name := "tick", desc := "(I)I" } : Jvm.MethodName) ({ cls := "ExactCurves", name := "tick", desc := "(I)I" } : Jvm.MethodName)) ∈ qz_T := qz_mem 444 (by decide +kernel) rfl
theorem wq_401 : (Jvm.Cond.code ({ cls := "ExactCurves", name := "tick", desc := "(I)I" } : Jvm.MethodName) prog_1_method_13_code (3 : Nat) (Option.some Jvm.ClassFile.FieldType.int)) ∈ qz_T := qz_mem 445 (by decide +kernel) rfl
theorem wq_402 : (Jvm.Cond.methodLink "ExactCurves" (153 : Nat) ({ cls := "ExactCurves$Pool", name := "grow", desc := "(I)V" } : Jvm.MethodName)) ∈ qz_T := qz_mem 446 (by decide +kernel) rfl
theorem wq_403 : (Jvm.Cond.instanceMethod ({ cls := "ExactCurves$Pool", name := "grow", desc := "(I)V" } : Jvm.MethodName)) ∈ qz_T := qz_mem 447 (by decide +kernel) rfl
theorem wq_404 : (Jvm.Cond.selects "ExactCurves$Pool" ({ cls := "ExactCurves$Pool", name := "grow", desc := "(I)V" } : Jvm.MethodName) ({ cls := "ExactCurves$Pool", name := "grow", desc := "(I)V" } : Jvm.MethodName)) ∈ qz_T := qz_mem 448 (by decide +kernel) rfl
theorem wq_405 : (Jvm.Cond.code ({ cls := "ExactCurves$Pool", name := "grow", desc := "(I)V" } : Jvm.MethodName) prog_6_method_13_code (2 : Nat) (Option.none : Option Jvm.ClassFile.FieldType)) ∈ qz_T := qz_mem 449 (by decide +kernel) rfl
theorem wq_406 : (Jvm.Cond.constantLong "ExactCurves$Pool" (81 : Nat) (1000 : Int64)) ∈ qz_T := qz_mem 450 (by decide +kernel) rfl
theorem wq_407 : (Jvm.Cond.methodLink "ExactCurves" (157 : Nat) ({ cls := "ExactCurves$Vault", name := "grow", desc := "(I)V" } : Jvm.MethodName)) ∈ qz_T := qz_mem 451 (by decide +kernel) rfl
theorem wq_408 : (Jvm.Cond.instanceMethod ({ cls := "ExactCurves$Vault", name := "grow", desc := "(I)V" } : Jvm.MethodName)) ∈ qz_T := qz_mem 452 (by decide +kernel) rfl
theorem wq_409 : (Jvm.Cond.selects "ExactCurves$Vault" ({ cls := "ExactCurves$Vault", name := "grow", desc := "(I)V" } : Jvm.MethodName) ({ cls := "ExactCurves$Vault", name := "grow", desc := "(I)V" } : Jvm.MethodName)) ∈ qz_T := qz_mem 453 (by decide +kernel) rfl
theorem wq_410 : (Jvm.Cond.code ({ cls := "ExactCurves$Vault", name := "grow", desc := "(I)V" } : Jvm.MethodName) prog_8_method_4_code (3 : Nat) (Option.none : Option Jvm.ClassFile.FieldType)) ∈ qz_T := qz_mem 454 (by decide +kernel) rfl
theorem wq_411 : (Jvm.Cond.constantLong "ExactCurves$Vault" (32 : Nat) (1000000000000 : Int64)) ∈ qz_T := qz_mem 455 (by decide +kernel) rfl
theorem wq_412 : (Jvm.Cond.methodLink "ExactCurves$Vault" (34 : Nat) ({ cls := "java/lang/Math", name := "min", desc := "(JJ)J" } : Jvm.MethodName)) ∈ qz_T := qz_mem 456 (by decide +kernel) rfl
theorem wq_413 : (Jvm.Cond.methodLink "ExactCurvesLaw" (71 : Nat) ({ cls := "ExactCurves", name := "mark", desc := "(II)I" } : Jvm.MethodName)) ∈ qz_T := qz_mem 457 (by decide +kernel) rfl
theorem wq_414 : (Jvm.Cond.instanceMethod ({ cls := "ExactCurves", name := "mark", desc := "(II)I" } : Jvm.MethodName)) ∈ qz_T := qz_mem 458 (by decide +kernel) rfl
theorem wq_415 : (Jvm.Cond.selects "ExactCurves" ({ cls := "ExactCurves", name := "mark", desc := "(II)I" } : Jvm.MethodName) ({ cls := "ExactCurves", name := "mark", desc := "(II)I" } : Jvm.MethodName)) ∈ qz_T := qz_mem 459 (by decide +kernel) rfl
theorem wq_416 : (Jvm.Cond.code ({ cls := "ExactCurves", name := "mark", desc := "(II)I" } : Jvm.MethodName) prog_1_method_14_code (5 : Nat) (Option.some Jvm.ClassFile.FieldType.int)) ∈ qz_T := qz_mem 460 (by decide +kernel) rfl
theorem wq_417 : (Jvm.Cond.methodLink "ExactCurvesLaw" (76 : Nat) ({ cls := "ExactCurves", name := "mean", desc := "(I)J" } : Jvm.MethodName)) ∈ qz_T := qz_mem 461 (by decide +kernel) rfl
theorem wq_418 : (Jvm.Cond.instanceMethod ({ cls := "ExactCurves", name := "mean", desc := "(I)J" } : Jvm.MethodName)) ∈ qz_T := qz_mem 462 (by decide +kernel) rfl
theorem wq_419 : (Jvm.Cond.selects "ExactCurves" ({ cls := "ExactCurves", name := "mean", desc := "(I)J" } : Jvm.MethodName) ({ cls := "ExactCurves", name := "mean", desc := "(I)J" } : Jvm.MethodName)) ∈ qz_T := qz_mem 463 (by decide +kernel) rfl
theorem wq_420 : (Jvm.Cond.code ({ cls := "ExactCurves", name := "mean", desc := "(I)J" } : Jvm.MethodName) prog_1_method_15_code (6 : Nat) (Option.some Jvm.ClassFile.FieldType.long)) ∈ qz_T := qz_mem 464 (by decide +kernel) rfl
theorem wq_421 : (Jvm.Cond.constantLong "ExactCurves" (176 : Nat) (-1 : Int64)) ∈ qz_T := qz_mem 465 (by decide +kernel) rfl
theorem wq_422 : (Jvm.Cond.methodLink "ExactCurves" (178 : Nat) ({ cls := "ExactCurves$Exact", name := "over", desc := "(JJJ)J" } : Jvm.MethodName)) ∈ qz_T := qz_mem 466 (by decide +kernel) rfl
theorem wq_423 : (Jvm.Cond.methodLink "ExactCurvesLaw" (80 : Nat) ({ cls := "ExactCurves", name := "batch", desc := "(II)I" } : Jvm.MethodName)) ∈ qz_T := qz_mem 467 (by decide +kernel) rfl
theorem wq_424 : (Jvm.Cond.instanceMethod ({ cls := "ExactCurves", name := "batch", desc := "(II)I" } : Jvm.MethodName)) ∈ qz_T := qz_mem 468 (by decide +kernel) rfl
theorem wq_425 : (Jvm.Cond.selects "ExactCurves" ({ cls := "ExactCurves", name := "batch", desc := "(II)I" } : Jvm.MethodName) ({ cls := "ExactCurves", name := "batch", desc := "(II)I" } : Jvm.MethodName)) ∈ qz_T := qz_mem 469 (by decide +kernel) rfl
theorem wq_426 : (Jvm.Cond.code ({ cls := "ExactCurves", name := "batch", desc := "(II)I" } : Jvm.MethodName) prog_1_method_16_code (3 : Nat) (Option.some Jvm.ClassFile.FieldType.int)) ∈ qz_T := qz_mem 470 (by decide +kernel) rfl
theorem wq_427 : (Jvm.Cond.methodLink "ExactCurvesLaw" (84 : Nat) ({ cls := "ExactCurves", name := "order", desc := "(IIJJ)I" } : Jvm.MethodName)) ∈ qz_T := qz_mem 471 (by decide +kernel) rfl
theorem wq_428 : (Jvm.Cond.instanceMethod ({ cls := "ExactCurves", name := "order", desc := "(IIJJ)I" } : Jvm.MethodName)) ∈ qz_T := qz_mem 472 (by decide +kernel) rfl
theorem wq_429 : (Jvm.Cond.selects "ExactCurves" ({ cls := "ExactCurves", name := "order", desc := "(IIJJ)I" } : Jvm.MethodName) ({ cls := "ExactCurves", name := "order", desc := "(IIJJ)I" } : Jvm.MethodName)) ∈ qz_T := qz_mem 473 (by decide +kernel) rfl
theorem wq_430 : (Jvm.Cond.code ({ cls := "ExactCurves", name := "order", desc := "(IIJJ)I" } : Jvm.MethodName) prog_1_method_17_code (10 : Nat) (Option.some Jvm.ClassFile.FieldType.int)) ∈ qz_T := qz_mem 474 (by decide +kernel) rfl
theorem wq_431 : (Jvm.Cond.constantLong "ExactCurves" (193 : Nat) (10000000000 : Int64)) ∈ qz_T := qz_mem 475 (by decide +kernel) rfl
theorem wq_432 : (Jvm.Cond.constantLong "ExactCurves" (195 : Nat) (1000000 : Int64)) ∈ qz_T := qz_mem 476 (by decide +kernel) rfl
theorem wq_433 : (Jvm.Cond.methodLink "ExactCurves" (197 : Nat) ({ cls := "ExactCurves$Batch", name := "priceUp", desc := "(JJ)J" } : Jvm.MethodName)) ∈ qz_T := qz_mem 477 (by decide +kernel) rfl
theorem wq_434 : (Jvm.Cond.static ({ cls := "ExactCurves$Batch", name := "priceUp", desc := "(JJ)J" } : Jvm.MethodName)) ∈ qz_T := qz_mem 478 (by decide +kernel) rfl
theorem wq_435 : (Jvm.Cond.code ({ cls := "ExactCurves$Batch", name := "priceUp", desc := "(JJ)J" } : Jvm.MethodName) prog_2_method_2_code (4 : Nat) (Option.some Jvm.ClassFile.FieldType.long)) ∈ qz_T := qz_mem 479 (by decide +kernel) rfl
theorem wq_436 : (Jvm.Cond.constantLong "ExactCurves$Batch" (36 : Nat) (1000 : Int64)) ∈ qz_T := qz_mem 480 (by decide +kernel) rfl
theorem wq_437 : (Jvm.Cond.methodLink "ExactCurves" (203 : Nat) ({ cls := "ExactCurves$Batch", name := "put", desc := "(IZJJ)I" } : Jvm.MethodName)) ∈ qz_T := qz_mem 481 (by decide +kernel) rfl
theorem wq_438 : (Jvm.Cond.instanceMethod ({ cls := "ExactCurves$Batch", name := "put", desc := "(IZJJ)I" } : Jvm.MethodName)) ∈ qz_T := qz_mem 482 (by decide +kernel) rfl
theorem wq_439 : (Jvm.Cond.selects "ExactCurves$Batch" ({ cls := "ExactCurves$Batch", name := "put", desc := "(IZJJ)I" } : Jvm.MethodName) ({ cls := "ExactCurves$Batch", name := "put", desc := "(IZJJ)I" } : Jvm.MethodName)) ∈ qz_T := qz_mem 483 (by decide +kernel) rfl
theorem wq_440 : (Jvm.Cond.code ({ cls := "ExactCurves$Batch", name := "put", desc := "(IZJJ)I" } : Jvm.MethodName) prog_2_method_3_code (7 : Nat) (Option.some Jvm.ClassFile.FieldType.int)) ∈ qz_T := qz_mem 484 (by decide +kernel) rfl
theorem wq_441 : (Jvm.Cond.methodLink "ExactCurvesLaw" (89 : Nat) ({ cls := "ExactCurves", name := "clear", desc := "()J" } : Jvm.MethodName)) ∈ qz_T := qz_mem 485 (by decide +kernel) rfl
theorem wq_442 : (Jvm.Cond.instanceMethod ({ cls := "ExactCurves", name := "clear", desc := "()J" } : Jvm.MethodName)) ∈ qz_T := qz_mem 486 (by decide +kernel) rfl
theorem wq_443 : (Jvm.Cond.selects "ExactCurves" ({ cls := "ExactCurves", name := "clear", desc := "()J" } : Jvm.MethodName) ({ cls := "ExactCurves", name := "clear", desc := "()J" } : Jvm.MethodName)) ∈ qz_T := qz_mem 487 (by decide +kernel) rfl
theorem wq_444 : (Jvm.Cond.code ({ cls := "ExactCurves", name := "clear", desc := "()J" } : Jvm.MethodName) prog_1_method_18_code (4 : Nat) (Option.some Jvm.ClassFile.FieldType.long)) ∈ qz_T := qz_mem 488 (by decide +kernel) rfl
theorem wq_445 : (Jvm.Cond.methodLink "ExactCurves" (207 : Nat) ({ cls := "ExactCurves$Batch", name := "bestPrice", desc := "()J" } : Jvm.MethodName)) ∈ qz_T := qz_mem 489 (by decide +kernel) rfl
theorem wq_446 : (Jvm.Cond.instanceMethod ({ cls := "ExactCurves$Batch", name := "bestPrice", desc := "()J" } : Jvm.MethodName)) ∈ qz_T := qz_mem 490 (by decide +kernel) rfl
theorem wq_447 : (Jvm.Cond.selects "ExactCurves$Batch" ({ cls := "ExactCurves$Batch", name := "bestPrice", desc := "()J" } : Jvm.MethodName) ({ cls := "ExactCurves$Batch", name := "bestPrice", desc := "()J" } : Jvm.MethodName)) ∈ qz_T := qz_mem 491 (by decide +kernel) rfl
theorem wq_448 : (Jvm.Cond.code ({ cls := "ExactCurves$Batch", name := "bestPrice", desc := "()J" } : Jvm.MethodName) prog_2_method_6_code (19 : Nat) (Option.some Jvm.ClassFile.FieldType.long)) ∈ qz_T := qz_mem 492 (by decide +kernel) rfl
theorem wq_449 : (Jvm.Cond.methodLink "ExactCurves$Batch" (41 : Nat) ({ cls := "ExactCurves$Batch", name := "boughtAt", desc := "(J)J" } : Jvm.MethodName)) ∈ qz_T := qz_mem 493 (by decide +kernel) rfl
theorem wq_450 : (Jvm.Cond.instanceMethod ({ cls := "ExactCurves$Batch", name := "boughtAt", desc := "(J)J" } : Jvm.MethodName)) ∈ qz_T := qz_mem 494 (by decide +kernel) rfl
theorem wq_451 : (Jvm.Cond.selects "ExactCurves$Batch" ({ cls := "ExactCurves$Batch", name := "boughtAt", desc := "(J)J" } : Jvm.MethodName) ({ cls := "ExactCurves$Batch", name := "boughtAt", desc := "(J)J" } : Jvm.MethodName)) ∈ qz_T := qz_mem 495 (by decide +kernel) rfl
theorem wq_452 : (Jvm.Cond.code ({ cls := "ExactCurves$Batch", name := "boughtAt", desc := "(J)J" } : Jvm.MethodName) prog_2_method_4_code (6 : Nat) (Option.some Jvm.ClassFile.FieldType.long)) ∈ qz_T := qz_mem 496 (by decide +kernel) rfl
theorem wq_453 : (Jvm.Cond.methodLink "ExactCurves$Batch" (45 : Nat) ({ cls := "ExactCurves$Batch", name := "soldAt", desc := "(J)J" } : Jvm.MethodName)) ∈ qz_T := qz_mem 497 (by decide +kernel) rfl
theorem wq_454 : (Jvm.Cond.instanceMethod ({ cls := "ExactCurves$Batch", name := "soldAt", desc := "(J)J" } : Jvm.MethodName)) ∈ qz_T := qz_mem 498 (by decide +kernel) rfl
theorem wq_455 : (Jvm.Cond.selects "ExactCurves$Batch" ({ cls := "ExactCurves$Batch", name := "soldAt", desc := "(J)J" } : Jvm.MethodName) ({ cls := "ExactCurves$Batch", name := "soldAt", desc := "(J)J" } : Jvm.MethodName)) ∈ qz_T := qz_mem 499 (by decide +kernel) rfl
theorem wq_456 : (Jvm.Cond.code ({ cls := "ExactCurves$Batch", name := "soldAt", desc := "(J)J" } : Jvm.MethodName) prog_2_method_5_code (6 : Nat) (Option.some Jvm.ClassFile.FieldType.long)) ∈ qz_T := qz_mem 500 (by decide +kernel) rfl
theorem wq_457 : (Jvm.Cond.methodLink "ExactCurves$Batch" (48 : Nat) ({ cls := "java/lang/Math", name := "min", desc := "(JJ)J" } : Jvm.MethodName)) ∈ qz_T := qz_mem 501 (by decide +kernel) rfl
theorem wq_458 : (Jvm.Cond.methodLink "ExactCurves$Batch" (54 : Nat) ({ cls := "java/lang/Math", name := "max", desc := "(JJ)J" } : Jvm.MethodName)) ∈ qz_T := qz_mem 502 (by decide +kernel) rfl
theorem wq_459 : (Jvm.Cond.static ({ cls := "java/lang/Math", name := "max", desc := "(JJ)J" } : Jvm.MethodName)) ∈ qz_T := qz_mem 503 (by decide +kernel) rfl
theorem wq_461 : (Jvm.Cond.methodLink "ExactCurves" (211 : Nat) ({ cls := "ExactCurves$Batch", name := "dealAt", desc := "(J)V" } : Jvm.MethodName)) ∈ qz_T := qz_mem 505 (by decide +kernel) rfl
theorem wq_462 : (Jvm.Cond.instanceMethod ({ cls := "ExactCurves$Batch", name := "dealAt", desc := "(J)V" } : Jvm.MethodName)) ∈ qz_T := qz_mem 506 (by decide +kernel) rfl
theorem wq_463 : (Jvm.Cond.selects "ExactCurves$Batch" ({ cls := "ExactCurves$Batch", name := "dealAt", desc := "(J)V" } : Jvm.MethodName) ({ cls := "ExactCurves$Batch", name := "dealAt", desc := "(J)V" } : Jvm.MethodName)) ∈ qz_T := qz_mem 507 (by decide +kernel) rfl
theorem wq_464 : (Jvm.Cond.code ({ cls := "ExactCurves$Batch", name := "dealAt", desc := "(J)V" } : Jvm.MethodName) prog_2_method_7_code (6 : Nat) (Option.none : Option Jvm.ClassFile.FieldType)) ∈ qz_T := qz_mem 508 (by decide +kernel) rfl
theorem wq_465 : (Jvm.Cond.methodLink "ExactCurves$Batch" (57 : Nat) ({ cls := "ExactCurves$Batch", name := "beforeOrder", desc := "(I)J" } : Jvm.MethodName)) ∈ qz_T := qz_mem 509 (by decide +kernel) rfl
theorem wq_466 : (Jvm.Cond.instanceMethod ({ cls := "ExactCurves$Batch", name := "beforeOrder", desc := "(I)J" } : Jvm.MethodName)) ∈ qz_T := qz_mem 510 (by decide +kernel) rfl
theorem wq_467 : (Jvm.Cond.selects "ExactCurves$Batch" ({ cls := "ExactCurves$Batch", name := "beforeOrder", desc := "(I)J" } : Jvm.MethodName) ({ cls := "ExactCurves$Batch", name := "beforeOrder", desc := "(I)J" } : Jvm.MethodName)) ∈ qz_T := qz_mem 511 (by decide +kernel) rfl
theorem wq_468 : (Jvm.Cond.code ({ cls := "ExactCurves$Batch", name := "beforeOrder", desc := "(I)J" } : Jvm.MethodName) prog_2_method_8_code (5 : Nat) (Option.some Jvm.ClassFile.FieldType.long)) ∈ qz_T := qz_mem 512 (by decide +kernel) rfl
theorem wq_469 : (Jvm.Cond.methodLink "ExactCurves$Batch" (68 : Nat) ({ cls := "ExactCurves$Batch", name := "isBefore", desc := "(II)Z" } : Jvm.MethodName)) ∈ qz_T := qz_mem 513 (by decide +kernel) rfl
theorem wq_471 : (Jvm.Cond.instanceMethod ({ cls := "ExactCurves$Batch", name := "isBefore", desc := "(II)Z" } : Jvm.MethodName)) ∈ qz_T := qz_mem 515 (by decide +kernel) rfl
theorem wq_472 : (Jvm.Cond.code ({ cls := "ExactCurves$Batch", name := "isBefore", desc := "(II)Z" } : Jvm.MethodName) prog_2_method_9_code (3 : Nat) (Option.some Jvm.ClassFile.FieldType.boolean)) ∈ qz_T := qz_mem 516 (by decide +kernel) rfl
theorem wq_473 : (Jvm.Cond.methodLink "ExactCurves" (219 : Nat) ({ cls := "ExactCurves", name := "settleBuyer", desc := "(IJ)V" } : Jvm.MethodName)) ∈ qz_T := qz_mem 517 (by decide +kernel) rfl
theorem wq_475 : (Jvm.Cond.instanceMethod ({ cls := "ExactCurves", name := "settleBuyer", desc := "(IJ)V" } : Jvm.MethodName)) ∈ qz_T := qz_mem 519 (by decide +kernel) rfl
theorem wq_476 : (Jvm.Cond.code ({ cls := "ExactCurves", name := "settleBuyer", desc := "(IJ)V" } : Jvm.MethodName) prog_1_method_35_code (10 : Nat) (Option.none : Option Jvm.ClassFile.FieldType)) ∈ qz_T := qz_mem 520 (by decide +kernel) rfl
theorem wq_477 : (Jvm.Cond.methodLink "ExactCurves" (222 : Nat) ({ cls := "ExactCurves", name := "settleSeller", desc := "(IJ)V" } : Jvm.MethodName)) ∈ qz_T := qz_mem 521 (by decide +kernel) rfl
theorem wq_479 : (Jvm.Cond.instanceMethod ({ cls := "ExactCurves", name := "settleSeller", desc := "(IJ)V" } : Jvm.MethodName)) ∈ qz_T := qz_mem 523 (by decide +kernel) rfl
theorem wq_480 : (Jvm.Cond.code ({ cls := "ExactCurves", name := "settleSeller", desc := "(IJ)V" } : Jvm.MethodName) prog_1_method_36_code (8 : Nat) (Option.none : Option Jvm.ClassFile.FieldType)) ∈ qz_T := qz_mem 524 (by decide +kernel) rfl
theorem wq_481 : (Jvm.Cond.constantLong "ExactCurves" (343 : Nat) (1000 : Int64)) ∈ qz_T := qz_mem 525 (by decide +kernel) rfl
theorem wq_482 : (Jvm.Cond.methodLink "ExactCurvesLaw" (94 : Nat) ({ cls := "ExactCurves", name := "dealt", desc := "(I)J" } : Jvm.MethodName)) ∈ qz_T := qz_mem 526 (by decide +kernel) rfl
theorem wq_483 : (Jvm.Cond.instanceMethod ({ cls := "ExactCurves", name := "dealt", desc := "(I)J" } : Jvm.MethodName)) ∈ qz_T := qz_mem 527 (by decide +kernel) rfl
theorem wq_484 : (Jvm.Cond.selects "ExactCurves" ({ cls := "ExactCurves", name := "dealt", desc := "(I)J" } : Jvm.MethodName) ({ cls := "ExactCurves", name := "dealt", desc := "(I)J" } : Jvm.MethodName)) ∈ qz_T := qz_mem 528 (by decide +kernel) rfl
theorem wq_485 : (Jvm.Cond.code ({ cls := "ExactCurves", name := "dealt", desc := "(I)J" } : Jvm.MethodName) prog_1_method_19_code (2 : Nat) (Option.some Jvm.ClassFile.FieldType.long)) ∈ qz_T := qz_mem 529 (by decide +kernel) rfl
theorem wq_486 : (Jvm.Cond.methodLink "ExactCurvesLaw" (98 : Nat) ({ cls := "ExactCurves", name := "rate", desc := "(IJ)J" } : Jvm.MethodName)) ∈ qz_T := qz_mem 530 (by decide +kernel) rfl
theorem wq_487 : (Jvm.Cond.instanceMethod ({ cls := "ExactCurves", name := "rate", desc := "(IJ)J" } : Jvm.MethodName)) ∈ qz_T := qz_mem 531 (by decide +kernel) rfl
theorem wq_488 : (Jvm.Cond.selects "ExactCurves" ({ cls := "ExactCurves", name := "rate", desc := "(IJ)J" } : Jvm.MethodName) ({ cls := "ExactCurves", name := "rate", desc := "(IJ)J" } : Jvm.MethodName)) ∈ qz_T := qz_mem 532 (by decide +kernel) rfl
theorem wq_489 : (Jvm.Cond.code ({ cls := "ExactCurves", name := "rate", desc := "(IJ)J" } : Jvm.MethodName) prog_1_method_20_code (6 : Nat) (Option.some Jvm.ClassFile.FieldType.long)) ∈ qz_T := qz_mem 533 (by decide +kernel) rfl
theorem wq_490 : (Jvm.Cond.methodLink "ExactCurvesLaw" (103 : Nat) ({ cls := "ExactCurves", name := "lend", desc := "(IIJ)J" } : Jvm.MethodName)) ∈ qz_T := qz_mem 534 (by decide +kernel) rfl
theorem wq_491 : (Jvm.Cond.instanceMethod ({ cls := "ExactCurves", name := "lend", desc := "(IIJ)J" } : Jvm.MethodName)) ∈ qz_T := qz_mem 535 (by decide +kernel) rfl
theorem wq_492 : (Jvm.Cond.selects "ExactCurves" ({ cls := "ExactCurves", name := "lend", desc := "(IIJ)J" } : Jvm.MethodName) ({ cls := "ExactCurves", name := "lend", desc := "(IIJ)J" } : Jvm.MethodName)) ∈ qz_T := qz_mem 536 (by decide +kernel) rfl
theorem wq_493 : (Jvm.Cond.code ({ cls := "ExactCurves", name := "lend", desc := "(IIJ)J" } : Jvm.MethodName) prog_1_method_21_code (8 : Nat) (Option.some Jvm.ClassFile.FieldType.long)) ∈ qz_T := qz_mem 537 (by decide +kernel) rfl
theorem wq_494 : (Jvm.Cond.methodLink "ExactCurves" (239 : Nat) ({ cls := "ExactCurves", name := "worthOf", desc := "(I)J" } : Jvm.MethodName)) ∈ qz_T := qz_mem 538 (by decide +kernel) rfl
theorem wq_496 : (Jvm.Cond.instanceMethod ({ cls := "ExactCurves", name := "worthOf", desc := "(I)J" } : Jvm.MethodName)) ∈ qz_T := qz_mem 540 (by decide +kernel) rfl
theorem wq_497 : (Jvm.Cond.code ({ cls := "ExactCurves", name := "worthOf", desc := "(I)J" } : Jvm.MethodName) prog_1_method_37_code (5 : Nat) (Option.some Jvm.ClassFile.FieldType.long)) ∈ qz_T := qz_mem 541 (by decide +kernel) rfl
theorem wq_498 : (Jvm.Cond.methodLink "ExactCurves" (307 : Nat) ({ cls := "ExactCurves", name := "debtToken", desc := "(LExactCurves$Loan;)I" } : Jvm.MethodName)) ∈ qz_T := qz_mem 542 (by decide +kernel) rfl
theorem wq_500 : (Jvm.Cond.instanceMethod ({ cls := "ExactCurves", name := "debtToken", desc := "(LExactCurves$Loan;)I" } : Jvm.MethodName)) ∈ qz_T := qz_mem 544 (by decide +kernel) rfl
theorem wq_501 : (Jvm.Cond.code ({ cls := "ExactCurves", name := "debtToken", desc := "(LExactCurves$Loan;)I" } : Jvm.MethodName) prog_1_method_42_code (2 : Nat) (Option.some Jvm.ClassFile.FieldType.int)) ∈ qz_T := qz_mem 545 (by decide +kernel) rfl
theorem wq_502 : (Jvm.Cond.methodLink "ExactCurves" (291 : Nat) ({ cls := "ExactCurves", name := "debtOf", desc := "(LExactCurves$Loan;)J" } : Jvm.MethodName)) ∈ qz_T := qz_mem 546 (by decide +kernel) rfl
theorem wq_504 : (Jvm.Cond.instanceMethod ({ cls := "ExactCurves", name := "debtOf", desc := "(LExactCurves$Loan;)J" } : Jvm.MethodName)) ∈ qz_T := qz_mem 548 (by decide +kernel) rfl
theorem wq_505 : (Jvm.Cond.code ({ cls := "ExactCurves", name := "debtOf", desc := "(LExactCurves$Loan;)J" } : Jvm.MethodName) prog_1_method_43_code (2 : Nat) (Option.some Jvm.ClassFile.FieldType.long)) ∈ qz_T := qz_mem 549 (by decide +kernel) rfl
theorem wq_506 : (Jvm.Cond.methodLink "ExactCurves" (345 : Nat) ({ cls := "ExactCurves$Vault", name := "debtOf", desc := "(J)J" } : Jvm.MethodName)) ∈ qz_T := qz_mem 550 (by decide +kernel) rfl
theorem wq_507 : (Jvm.Cond.instanceMethod ({ cls := "ExactCurves$Vault", name := "debtOf", desc := "(J)J" } : Jvm.MethodName)) ∈ qz_T := qz_mem 551 (by decide +kernel) rfl
theorem wq_508 : (Jvm.Cond.selects "ExactCurves$Vault" ({ cls := "ExactCurves$Vault", name := "debtOf", desc := "(J)J" } : Jvm.MethodName) ({ cls := "ExactCurves$Vault", name := "debtOf", desc := "(J)J" } : Jvm.MethodName)) ∈ qz_T := qz_mem 552 (by decide +kernel) rfl
theorem wq_509 : (Jvm.Cond.code ({ cls := "ExactCurves$Vault", name := "debtOf", desc := "(J)J" } : Jvm.MethodName) prog_8_method_5_code (3 : Nat) (Option.some Jvm.ClassFile.FieldType.long)) ∈ qz_T := qz_mem 553 (by decide +kernel) rfl
theorem wq_510 : (Jvm.Cond.methodLink "ExactCurves$Vault" (40 : Nat) ({ cls := "ExactCurves$Exact", name := "timesOverUp", desc := "(JJJ)J" } : Jvm.MethodName)) ∈ qz_T := qz_mem 554 (by decide +kernel) rfl
theorem wq_511 : (Jvm.Cond.methodLink "ExactCurves" (242 : Nat) ({ cls := "ExactCurves$Exact", name := "timesOver", desc := "(JJJ)J" } : Jvm.MethodName)) ∈ qz_T := qz_mem 555 (by decide +kernel) rfl
theorem wq_512 : (Jvm.Cond.methodLink "ExactCurves" (248 : Nat) ({ cls := "ExactCurves$Vault", name := "addParts", desc := "(IJ)V" } : Jvm.MethodName)) ∈ qz_T := qz_mem 556 (by decide +kernel) rfl
theorem wq_513 : (Jvm.Cond.instanceMethod ({ cls := "ExactCurves$Vault", name := "addParts", desc := "(IJ)V" } : Jvm.MethodName)) ∈ qz_T := qz_mem 557 (by decide +kernel) rfl
theorem wq_514 : (Jvm.Cond.selects "ExactCurves$Vault" ({ cls := "ExactCurves$Vault", name := "addParts", desc := "(IJ)V" } : Jvm.MethodName) ({ cls := "ExactCurves$Vault", name := "addParts", desc := "(IJ)V" } : Jvm.MethodName)) ∈ qz_T := qz_mem 558 (by decide +kernel) rfl
theorem wq_515 : (Jvm.Cond.code ({ cls := "ExactCurves$Vault", name := "addParts", desc := "(IJ)V" } : Jvm.MethodName) prog_8_method_3_code (4 : Nat) (Option.none : Option Jvm.ClassFile.FieldType)) ∈ qz_T := qz_mem 559 (by decide +kernel) rfl
theorem wq_516 : (Jvm.Cond.methodLink "ExactCurvesLaw" (107 : Nat) ({ cls := "ExactCurves", name := "redeem", desc := "(IIJ)J" } : Jvm.MethodName)) ∈ qz_T := qz_mem 560 (by decide +kernel) rfl
theorem wq_517 : (Jvm.Cond.instanceMethod ({ cls := "ExactCurves", name := "redeem", desc := "(IIJ)J" } : Jvm.MethodName)) ∈ qz_T := qz_mem 561 (by decide +kernel) rfl
theorem wq_518 : (Jvm.Cond.selects "ExactCurves" ({ cls := "ExactCurves", name := "redeem", desc := "(IIJ)J" } : Jvm.MethodName) ({ cls := "ExactCurves", name := "redeem", desc := "(IIJ)J" } : Jvm.MethodName)) ∈ qz_T := qz_mem 562 (by decide +kernel) rfl
theorem wq_519 : (Jvm.Cond.code ({ cls := "ExactCurves", name := "redeem", desc := "(IIJ)J" } : Jvm.MethodName) prog_1_method_22_code (8 : Nat) (Option.some Jvm.ClassFile.FieldType.long)) ∈ qz_T := qz_mem 563 (by decide +kernel) rfl
theorem wq_520 : (Jvm.Cond.methodLink "ExactCurvesLaw" (111 : Nat) ({ cls := "ExactCurves", name := "vault", desc := "(II)J" } : Jvm.MethodName)) ∈ qz_T := qz_mem 564 (by decide +kernel) rfl
theorem wq_521 : (Jvm.Cond.instanceMethod ({ cls := "ExactCurves", name := "vault", desc := "(II)J" } : Jvm.MethodName)) ∈ qz_T := qz_mem 565 (by decide +kernel) rfl
theorem wq_522 : (Jvm.Cond.selects "ExactCurves" ({ cls := "ExactCurves", name := "vault", desc := "(II)J" } : Jvm.MethodName) ({ cls := "ExactCurves", name := "vault", desc := "(II)J" } : Jvm.MethodName)) ∈ qz_T := qz_mem 566 (by decide +kernel) rfl
theorem wq_523 : (Jvm.Cond.code ({ cls := "ExactCurves", name := "vault", desc := "(II)J" } : Jvm.MethodName) prog_1_method_23_code (3 : Nat) (Option.some Jvm.ClassFile.FieldType.long)) ∈ qz_T := qz_mem 567 (by decide +kernel) rfl
theorem wq_524 : (Jvm.Cond.methodLink "ExactCurves" (254 : Nat) ({ cls := "ExactCurves$Vault", name := "told", desc := "(I)J" } : Jvm.MethodName)) ∈ qz_T := qz_mem 568 (by decide +kernel) rfl
theorem wq_525 : (Jvm.Cond.instanceMethod ({ cls := "ExactCurves$Vault", name := "told", desc := "(I)J" } : Jvm.MethodName)) ∈ qz_T := qz_mem 569 (by decide +kernel) rfl
theorem wq_526 : (Jvm.Cond.selects "ExactCurves$Vault" ({ cls := "ExactCurves$Vault", name := "told", desc := "(I)J" } : Jvm.MethodName) ({ cls := "ExactCurves$Vault", name := "told", desc := "(I)J" } : Jvm.MethodName)) ∈ qz_T := qz_mem 570 (by decide +kernel) rfl
theorem wq_527 : (Jvm.Cond.code ({ cls := "ExactCurves$Vault", name := "told", desc := "(I)J" } : Jvm.MethodName) prog_8_method_2_code (2 : Nat) (Option.some Jvm.ClassFile.FieldType.long)) ∈ qz_T := qz_mem 571 (by decide +kernel) rfl
theorem wq_528 : (Jvm.Cond.constantLong "ExactCurves$Vault" (30 : Nat) (-2 : Int64)) ∈ qz_T := qz_mem 572 (by decide +kernel) rfl
theorem wq_529 : (Jvm.Cond.methodLink "ExactCurvesLaw" (115 : Nat) ({ cls := "ExactCurves", name := "loan", desc := "(IIIJJ)I" } : Jvm.MethodName)) ∈ qz_T := qz_mem 573 (by decide +kernel) rfl
theorem wq_530 : (Jvm.Cond.instanceMethod ({ cls := "ExactCurves", name := "loan", desc := "(IIIJJ)I" } : Jvm.MethodName)) ∈ qz_T := qz_mem 574 (by decide +kernel) rfl
theorem wq_531 : (Jvm.Cond.selects "ExactCurves" ({ cls := "ExactCurves", name := "loan", desc := "(IIIJJ)I" } : Jvm.MethodName) ({ cls := "ExactCurves", name := "loan", desc := "(IIIJJ)I" } : Jvm.MethodName)) ∈ qz_T := qz_mem 575 (by decide +kernel) rfl
theorem wq_532 : (Jvm.Cond.code ({ cls := "ExactCurves", name := "loan", desc := "(IIIJJ)I" } : Jvm.MethodName) prog_1_method_24_code (11 : Nat) (Option.some Jvm.ClassFile.FieldType.int)) ∈ qz_T := qz_mem 576 (by decide +kernel) rfl
theorem wq_533 : (Jvm.Cond.methodLink "ExactCurves" (255 : Nat) ({ cls := "ExactCurves", name := "freeLoan", desc := "()I" } : Jvm.MethodName)) ∈ qz_T := qz_mem 577 (by decide +kernel) rfl
theorem wq_535 : (Jvm.Cond.instanceMethod ({ cls := "ExactCurves", name := "freeLoan", desc := "()I" } : Jvm.MethodName)) ∈ qz_T := qz_mem 579 (by decide +kernel) rfl
theorem wq_536 : (Jvm.Cond.code ({ cls := "ExactCurves", name := "freeLoan", desc := "()I" } : Jvm.MethodName) prog_1_method_39_code (2 : Nat) (Option.some Jvm.ClassFile.FieldType.int)) ∈ qz_T := qz_mem 580 (by decide +kernel) rfl
theorem wq_537 : (Jvm.Cond.constantLong "ExactCurves" (259 : Nat) (5 : Int64)) ∈ qz_T := qz_mem 581 (by decide +kernel) rfl
theorem wq_538 : (Jvm.Cond.constantLong "ExactCurves" (261 : Nat) (3 : Int64)) ∈ qz_T := qz_mem 582 (by decide +kernel) rfl
theorem wq_539 : (Jvm.Cond.methodLink "ExactCurves" (263 : Nat) ({ cls := "ExactCurves$Pool", name := "valueOf", desc := "(IJ)J" } : Jvm.MethodName)) ∈ qz_T := qz_mem 583 (by decide +kernel) rfl
theorem wq_540 : (Jvm.Cond.instanceMethod ({ cls := "ExactCurves$Pool", name := "valueOf", desc := "(IJ)J" } : Jvm.MethodName)) ∈ qz_T := qz_mem 584 (by decide +kernel) rfl
theorem wq_541 : (Jvm.Cond.selects "ExactCurves$Pool" ({ cls := "ExactCurves$Pool", name := "valueOf", desc := "(IJ)J" } : Jvm.MethodName) ({ cls := "ExactCurves$Pool", name := "valueOf", desc := "(IJ)J" } : Jvm.MethodName)) ∈ qz_T := qz_mem 585 (by decide +kernel) rfl
theorem wq_542 : (Jvm.Cond.code ({ cls := "ExactCurves$Pool", name := "valueOf", desc := "(IJ)J" } : Jvm.MethodName) prog_6_method_14_code (6 : Nat) (Option.some Jvm.ClassFile.FieldType.long)) ∈ qz_T := qz_mem 586 (by decide +kernel) rfl
theorem wq_543 : (Jvm.Cond.constantLong "ExactCurves$Pool" (83 : Nat) (1000000000000000000 : Int64)) ∈ qz_T := qz_mem 587 (by decide +kernel) rfl
theorem wq_544 : (Jvm.Cond.methodLink "ExactCurves" (266 : Nat) ({ cls := "ExactCurves$Vault", name := "unitsOf", desc := "(J)J" } : Jvm.MethodName)) ∈ qz_T := qz_mem 588 (by decide +kernel) rfl
theorem wq_545 : (Jvm.Cond.instanceMethod ({ cls := "ExactCurves$Vault", name := "unitsOf", desc := "(J)J" } : Jvm.MethodName)) ∈ qz_T := qz_mem 589 (by decide +kernel) rfl
theorem wq_546 : (Jvm.Cond.selects "ExactCurves$Vault" ({ cls := "ExactCurves$Vault", name := "unitsOf", desc := "(J)J" } : Jvm.MethodName) ({ cls := "ExactCurves$Vault", name := "unitsOf", desc := "(J)J" } : Jvm.MethodName)) ∈ qz_T := qz_mem 590 (by decide +kernel) rfl
theorem wq_547 : (Jvm.Cond.code ({ cls := "ExactCurves$Vault", name := "unitsOf", desc := "(J)J" } : Jvm.MethodName) prog_8_method_6_code (3 : Nat) (Option.some Jvm.ClassFile.FieldType.long)) ∈ qz_T := qz_mem 591 (by decide +kernel) rfl
theorem wq_548 : (Jvm.Cond.methodLink "ExactCurves" (270 : Nat) ({ cls := "ExactCurves$Loan", name := "begin", desc := "(IIIJJ)V" } : Jvm.MethodName)) ∈ qz_T := qz_mem 592 (by decide +kernel) rfl
theorem wq_549 : (Jvm.Cond.instanceMethod ({ cls := "ExactCurves$Loan", name := "begin", desc := "(IIIJJ)V" } : Jvm.MethodName)) ∈ qz_T := qz_mem 593 (by decide +kernel) rfl
theorem wq_550 : (Jvm.Cond.selects "ExactCurves$Loan" ({ cls := "ExactCurves$Loan", name := "begin", desc := "(IIIJJ)V" } : Jvm.MethodName) ({ cls := "ExactCurves$Loan", name := "begin", desc := "(IIIJJ)V" } : Jvm.MethodName)) ∈ qz_T := qz_mem 594 (by decide +kernel) rfl
theorem wq_551 : (Jvm.Cond.code ({ cls := "ExactCurves$Loan", name := "begin", desc := "(IIIJJ)V" } : Jvm.MethodName) prog_4_method_2_code (8 : Nat) (Option.none : Option Jvm.ClassFile.FieldType)) ∈ qz_T := qz_mem 595 (by decide +kernel) rfl
theorem wq_552 : (Jvm.Cond.methodLink "ExactCurvesLaw" (120 : Nat) ({ cls := "ExactCurves", name := "ofLoan", desc := "(II)J" } : Jvm.MethodName)) ∈ qz_T := qz_mem 596 (by decide +kernel) rfl
theorem wq_553 : (Jvm.Cond.instanceMethod ({ cls := "ExactCurves", name := "ofLoan", desc := "(II)J" } : Jvm.MethodName)) ∈ qz_T := qz_mem 597 (by decide +kernel) rfl
theorem wq_554 : (Jvm.Cond.selects "ExactCurves" ({ cls := "ExactCurves", name := "ofLoan", desc := "(II)J" } : Jvm.MethodName) ({ cls := "ExactCurves", name := "ofLoan", desc := "(II)J" } : Jvm.MethodName)) ∈ qz_T := qz_mem 598 (by decide +kernel) rfl
theorem wq_555 : (Jvm.Cond.code ({ cls := "ExactCurves", name := "ofLoan", desc := "(II)J" } : Jvm.MethodName) prog_1_method_25_code (4 : Nat) (Option.some Jvm.ClassFile.FieldType.long)) ∈ qz_T := qz_mem 599 (by decide +kernel) rfl
theorem wq_556 : (Jvm.Cond.methodLink "ExactCurves" (274 : Nat) ({ cls := "ExactCurves", name := "loanAt", desc := "(I)LExactCurves$Loan;" } : Jvm.MethodName)) ∈ qz_T := qz_mem 600 (by decide +kernel) rfl
theorem wq_558 : (Jvm.Cond.instanceMethod ({ cls := "ExactCurves", name := "loanAt", desc := "(I)LExactCurves$Loan;" } : Jvm.MethodName)) ∈ qz_T := qz_mem 602 (by decide +kernel) rfl
theorem wq_559 : (Jvm.Cond.code ({ cls := "ExactCurves", name := "loanAt", desc := "(I)LExactCurves$Loan;" } : Jvm.MethodName) prog_1_method_38_code (2 : Nat) (Option.some (Jvm.ClassFile.FieldType.object "ExactCurves$Loan"))) ∈ qz_T := qz_mem 603 (by decide +kernel) rfl
theorem wq_560 : (Jvm.Cond.methodLink "ExactCurves" (295 : Nat) ({ cls := "ExactCurves", name := "coverValue", desc := "(LExactCurves$Loan;)J" } : Jvm.MethodName)) ∈ qz_T := qz_mem 604 (by decide +kernel) rfl
theorem wq_562 : (Jvm.Cond.instanceMethod ({ cls := "ExactCurves", name := "coverValue", desc := "(LExactCurves$Loan;)J" } : Jvm.MethodName)) ∈ qz_T := qz_mem 606 (by decide +kernel) rfl
theorem wq_563 : (Jvm.Cond.code ({ cls := "ExactCurves", name := "coverValue", desc := "(LExactCurves$Loan;)J" } : Jvm.MethodName) prog_1_method_44_code (2 : Nat) (Option.some Jvm.ClassFile.FieldType.long)) ∈ qz_T := qz_mem 607 (by decide +kernel) rfl
theorem wq_564 : (Jvm.Cond.methodLink "ExactCurves" (298 : Nat) ({ cls := "ExactCurves", name := "isUncovered", desc := "(LExactCurves$Loan;)Z" } : Jvm.MethodName)) ∈ qz_T := qz_mem 608 (by decide +kernel) rfl
theorem wq_566 : (Jvm.Cond.instanceMethod ({ cls := "ExactCurves", name := "isUncovered", desc := "(LExactCurves$Loan;)Z" } : Jvm.MethodName)) ∈ qz_T := qz_mem 610 (by decide +kernel) rfl
theorem wq_567 : (Jvm.Cond.code ({ cls := "ExactCurves", name := "isUncovered", desc := "(LExactCurves$Loan;)Z" } : Jvm.MethodName) prog_1_method_45_code (2 : Nat) (Option.some Jvm.ClassFile.FieldType.boolean)) ∈ qz_T := qz_mem 611 (by decide +kernel) rfl
theorem wq_568 : (Jvm.Cond.constantLong "ExactCurves" (347 : Nat) (4 : Int64)) ∈ qz_T := qz_mem 612 (by decide +kernel) rfl
theorem wq_569 : (Jvm.Cond.methodLink "ExactCurvesLaw" (124 : Nat) ({ cls := "ExactCurves", name := "pay", desc := "(IIJ)J" } : Jvm.MethodName)) ∈ qz_T := qz_mem 613 (by decide +kernel) rfl
theorem wq_570 : (Jvm.Cond.instanceMethod ({ cls := "ExactCurves", name := "pay", desc := "(IIJ)J" } : Jvm.MethodName)) ∈ qz_T := qz_mem 614 (by decide +kernel) rfl
theorem wq_571 : (Jvm.Cond.selects "ExactCurves" ({ cls := "ExactCurves", name := "pay", desc := "(IIJ)J" } : Jvm.MethodName) ({ cls := "ExactCurves", name := "pay", desc := "(IIJ)J" } : Jvm.MethodName)) ∈ qz_T := qz_mem 615 (by decide +kernel) rfl
theorem wq_572 : (Jvm.Cond.code ({ cls := "ExactCurves", name := "pay", desc := "(IIJ)J" } : Jvm.MethodName) prog_1_method_26_code (11 : Nat) (Option.some Jvm.ClassFile.FieldType.long)) ∈ qz_T := qz_mem 616 (by decide +kernel) rfl
theorem wq_573 : (Jvm.Cond.methodLink "ExactCurves" (302 : Nat) ({ cls := "java/lang/Math", name := "min", desc := "(JJ)J" } : Jvm.MethodName)) ∈ qz_T := qz_mem 617 (by decide +kernel) rfl
theorem wq_574 : (Jvm.Cond.methodLink "ExactCurves" (311 : Nat) ({ cls := "ExactCurves", name := "coverToken", desc := "(LExactCurves$Loan;)I" } : Jvm.MethodName)) ∈ qz_T := qz_mem 618 (by decide +kernel) rfl
theorem wq_576 : (Jvm.Cond.instanceMethod ({ cls := "ExactCurves", name := "coverToken", desc := "(LExactCurves$Loan;)I" } : Jvm.MethodName)) ∈ qz_T := qz_mem 620 (by decide +kernel) rfl
theorem wq_577 : (Jvm.Cond.code ({ cls := "ExactCurves", name := "coverToken", desc := "(LExactCurves$Loan;)I" } : Jvm.MethodName) prog_1_method_41_code (2 : Nat) (Option.some Jvm.ClassFile.FieldType.int)) ∈ qz_T := qz_mem 621 (by decide +kernel) rfl
theorem wq_578 : (Jvm.Cond.methodLink "ExactCurvesLaw" (128 : Nat) ({ cls := "ExactCurves", name := "close", desc := "(II)J" } : Jvm.MethodName)) ∈ qz_T := qz_mem 622 (by decide +kernel) rfl
theorem wq_579 : (Jvm.Cond.instanceMethod ({ cls := "ExactCurves", name := "close", desc := "(II)J" } : Jvm.MethodName)) ∈ qz_T := qz_mem 623 (by decide +kernel) rfl
theorem wq_580 : (Jvm.Cond.selects "ExactCurves" ({ cls := "ExactCurves", name := "close", desc := "(II)J" } : Jvm.MethodName) ({ cls := "ExactCurves", name := "close", desc := "(II)J" } : Jvm.MethodName)) ∈ qz_T := qz_mem 624 (by decide +kernel) rfl
theorem wq_581 : (Jvm.Cond.code ({ cls := "ExactCurves", name := "close", desc := "(II)J" } : Jvm.MethodName) prog_1_method_27_code (11 : Nat) (Option.some Jvm.ClassFile.FieldType.long)) ∈ qz_T := qz_mem 625 (by decide +kernel) rfl
theorem wq_582 : (Jvm.Cond.constantLong "ExactCurves" (317 : Nat) (105 : Int64)) ∈ qz_T := qz_mem 626 (by decide +kernel) rfl
theorem wq_583 : (Jvm.Cond.constantLong "ExactCurves" (319 : Nat) (100 : Int64)) ∈ qz_T := qz_mem 627 (by decide +kernel) rfl
theorem wq_584 : (Jvm.Cond.methodLink "ExactCurves" (321 : Nat) ({ cls := "ExactCurves$Exact", name := "timesOverUp", desc := "(JJJ)J" } : Jvm.MethodName)) ∈ qz_T := qz_mem 628 (by decide +kernel) rfl
theorem wq_585 : (Jvm.Cond.methodLink "ExactCurves" (324 : Nat) ({ cls := "ExactCurves$Pool", name := "leastOfValue", desc := "(IJ)J" } : Jvm.MethodName)) ∈ qz_T := qz_mem 629 (by decide +kernel) rfl
theorem wq_586 : (Jvm.Cond.instanceMethod ({ cls := "ExactCurves$Pool", name := "leastOfValue", desc := "(IJ)J" } : Jvm.MethodName)) ∈ qz_T := qz_mem 630 (by decide +kernel) rfl
theorem wq_587 : (Jvm.Cond.selects "ExactCurves$Pool" ({ cls := "ExactCurves$Pool", name := "leastOfValue", desc := "(IJ)J" } : Jvm.MethodName) ({ cls := "ExactCurves$Pool", name := "leastOfValue", desc := "(IJ)J" } : Jvm.MethodName)) ∈ qz_T := qz_mem 631 (by decide +kernel) rfl
theorem wq_588 : (Jvm.Cond.code ({ cls := "ExactCurves$Pool", name := "leastOfValue", desc := "(IJ)J" } : Jvm.MethodName) prog_6_method_15_code (8 : Nat) (Option.some Jvm.ClassFile.FieldType.long)) ∈ qz_T := qz_mem 632 (by decide +kernel) rfl
theorem wq_589 : (Jvm.Cond.methodLink "ExactCurvesLaw" (132 : Nat) ({ cls := "ExactCurves", name := "count", desc := "(I)I" } : Jvm.MethodName)) ∈ qz_T := qz_mem 633 (by decide +kernel) rfl
theorem wq_590 : (Jvm.Cond.instanceMethod ({ cls := "ExactCurves", name := "count", desc := "(I)I" } : Jvm.MethodName)) ∈ qz_T := qz_mem 634 (by decide +kernel) rfl
theorem wq_591 : (Jvm.Cond.selects "ExactCurves" ({ cls := "ExactCurves", name := "count", desc := "(I)I" } : Jvm.MethodName) ({ cls := "ExactCurves", name := "count", desc := "(I)I" } : Jvm.MethodName)) ∈ qz_T := qz_mem 635 (by decide +kernel) rfl
theorem wq_592 : (Jvm.Cond.code ({ cls := "ExactCurves", name := "count", desc := "(I)I" } : Jvm.MethodName) prog_1_method_28_code (2 : Nat) (Option.some Jvm.ClassFile.FieldType.int)) ∈ qz_T := qz_mem 636 (by decide +kernel) rfl
theorem wq_593 : (Jvm.Cond.methodLink "ExactCurves" (327 : Nat) ({ cls := "ExactCurves", name := "openLoans", desc := "()I" } : Jvm.MethodName)) ∈ qz_T := qz_mem 637 (by decide +kernel) rfl
theorem wq_595 : (Jvm.Cond.instanceMethod ({ cls := "ExactCurves", name := "openLoans", desc := "()I" } : Jvm.MethodName)) ∈ qz_T := qz_mem 639 (by decide +kernel) rfl
theorem wq_596 : (Jvm.Cond.code ({ cls := "ExactCurves", name := "openLoans", desc := "()I" } : Jvm.MethodName) prog_1_method_40_code (3 : Nat) (Option.some Jvm.ClassFile.FieldType.int)) ∈ qz_T := qz_mem 640 (by decide +kernel) rfl
theorem wq_602 : (Jvm.Cond.methodLink "ExactCurvesModel" (1 : Nat) ({ cls := "java/lang/Object", name := "<init>", desc := "()V" } : Jvm.MethodName)) ∈ qz_T := qz_mem 646 (by decide +kernel) rfl
theorem wq_603 : (Jvm.Cond.constantLong "ExactCurvesModel" (118 : Nat) (1000000000 : Int64)) ∈ qz_T := qz_mem 647 (by decide +kernel) rfl
theorem wq_604 : (Jvm.Cond.fieldLink "ExactCurvesModel" (7 : Nat) "ExactCurvesModel" "balances" "[J") ∈ qz_T := qz_mem 648 (by decide +kernel) rfl
theorem wq_605 : (Jvm.Cond.fieldLink "ExactCurvesModel" (13 : Nat) "ExactCurvesModel" "houses" "[J") ∈ qz_T := qz_mem 649 (by decide +kernel) rfl
theorem wq_606 : (Jvm.Cond.fieldLink "ExactCurvesModel" (215 : Nat) "ExactCurvesModel" "clock" "I") ∈ qz_T := qz_mem 650 (by decide +kernel) rfl
theorem wq_607 : (Jvm.Cond.fieldLink "ExactCurvesModel" (145 : Nat) "ExactCurvesModel" "pools" "I") ∈ qz_T := qz_mem 651 (by decide +kernel) rfl
theorem wq_608 : (Jvm.Cond.fieldLink "ExactCurvesModel" (16 : Nat) "ExactCurvesModel" "poolTokens" "[I") ∈ qz_T := qz_mem 652 (by decide +kernel) rfl
theorem wq_609 : (Jvm.Cond.fieldLink "ExactCurvesModel" (20 : Nat) "ExactCurvesModel" "kinds" "[I") ∈ qz_T := qz_mem 653 (by decide +kernel) rfl
theorem wq_610 : (Jvm.Cond.fieldLink "ExactCurvesModel" (23 : Nat) "ExactCurvesModel" "fees" "[I") ∈ qz_T := qz_mem 654 (by decide +kernel) rfl
theorem wq_611 : (Jvm.Cond.fieldLink "ExactCurvesModel" (26 : Nat) "ExactCurvesModel" "reserves" "[J") ∈ qz_T := qz_mem 655 (by decide +kernel) rfl
theorem wq_612 : (Jvm.Cond.fieldLink "ExactCurvesModel" (29 : Nat) "ExactCurvesModel" "allShares" "[J") ∈ qz_T := qz_mem 656 (by decide +kernel) rfl
theorem wq_613 : (Jvm.Cond.fieldLink "ExactCurvesModel" (32 : Nat) "ExactCurvesModel" "shares" "[J") ∈ qz_T := qz_mem 657 (by decide +kernel) rfl
theorem wq_614 : (Jvm.Cond.fieldLink "ExactCurvesModel" (35 : Nat) "ExactCurvesModel" "tallies" "[J") ∈ qz_T := qz_mem 658 (by decide +kernel) rfl
theorem wq_615 : (Jvm.Cond.fieldLink "ExactCurvesModel" (38 : Nat) "ExactCurvesModel" "ages" "[J") ∈ qz_T := qz_mem 659 (by decide +kernel) rfl
theorem wq_616 : (Jvm.Cond.fieldLink "ExactCurvesModel" (41 : Nat) "ExactCurvesModel" "markPools" "[I") ∈ qz_T := qz_mem 660 (by decide +kernel) rfl
theorem wq_617 : (Jvm.Cond.fieldLink "ExactCurvesModel" (44 : Nat) "ExactCurvesModel" "markTallies" "[J") ∈ qz_T := qz_mem 661 (by decide +kernel) rfl
theorem wq_618 : (Jvm.Cond.fieldLink "ExactCurvesModel" (47 : Nat) "ExactCurvesModel" "markAges" "[J") ∈ qz_T := qz_mem 662 (by decide +kernel) rfl
theorem wq_619 : (Jvm.Cond.fieldLink "ExactCurvesModel" (155 : Nat) "ExactCurvesModel" "tokenA" "I") ∈ qz_T := qz_mem 663 (by decide +kernel) rfl
theorem wq_620 : (Jvm.Cond.fieldLink "ExactCurvesModel" (50 : Nat) "ExactCurvesModel" "tokenB" "I") ∈ qz_T := qz_mem 664 (by decide +kernel) rfl
theorem wq_621 : (Jvm.Cond.fieldLink "ExactCurvesModel" (152 : Nat) "ExactCurvesModel" "orders" "I") ∈ qz_T := qz_mem 665 (by decide +kernel) rfl
theorem wq_622 : (Jvm.Cond.fieldLink "ExactCurvesModel" (54 : Nat) "ExactCurvesModel" "orderPlayers" "[I") ∈ qz_T := qz_mem 666 (by decide +kernel) rfl
theorem wq_623 : (Jvm.Cond.fieldLink "ExactCurvesModel" (57 : Nat) "ExactCurvesModel" "buys" "[Z") ∈ qz_T := qz_mem 667 (by decide +kernel) rfl
theorem wq_624 : (Jvm.Cond.fieldLink "ExactCurvesModel" (61 : Nat) "ExactCurvesModel" "amounts" "[J") ∈ qz_T := qz_mem 668 (by decide +kernel) rfl
theorem wq_625 : (Jvm.Cond.fieldLink "ExactCurvesModel" (64 : Nat) "ExactCurvesModel" "limits" "[J") ∈ qz_T := qz_mem 669 (by decide +kernel) rfl
theorem wq_626 : (Jvm.Cond.fieldLink "ExactCurvesModel" (245 : Nat) "ExactCurvesModel" "allDealt" "J") ∈ qz_T := qz_mem 670 (by decide +kernel) rfl
theorem wq_627 : (Jvm.Cond.fieldLink "ExactCurvesModel" (242 : Nat) "ExactCurvesModel" "ordersThen" "I") ∈ qz_T := qz_mem 671 (by decide +kernel) rfl
theorem wq_628 : (Jvm.Cond.fieldLink "ExactCurvesModel" (67 : Nat) "ExactCurvesModel" "dealts" "[J") ∈ qz_T := qz_mem 672 (by decide +kernel) rfl
theorem wq_629 : (Jvm.Cond.fieldLink "ExactCurvesModel" (70 : Nat) "ExactCurvesModel" "taken" "[Z") ∈ qz_T := qz_mem 673 (by decide +kernel) rfl
theorem wq_630 : (Jvm.Cond.fieldLink "ExactCurvesModel" (73 : Nat) "ExactCurvesModel" "vaults" "[J") ∈ qz_T := qz_mem 674 (by decide +kernel) rfl
theorem wq_631 : (Jvm.Cond.fieldLink "ExactCurvesModel" (76 : Nat) "ExactCurvesModel" "allParts" "[J") ∈ qz_T := qz_mem 675 (by decide +kernel) rfl
theorem wq_632 : (Jvm.Cond.fieldLink "ExactCurvesModel" (79 : Nat) "ExactCurvesModel" "parts" "[J") ∈ qz_T := qz_mem 676 (by decide +kernel) rfl
theorem wq_633 : (Jvm.Cond.fieldLink "ExactCurvesModel" (82 : Nat) "ExactCurvesModel" "indexes" "[J") ∈ qz_T := qz_mem 677 (by decide +kernel) rfl
theorem wq_634 : (Jvm.Cond.fieldLink "ExactCurvesModel" (85 : Nat) "ExactCurvesModel" "rates" "[J") ∈ qz_T := qz_mem 678 (by decide +kernel) rfl
theorem wq_635 : (Jvm.Cond.fieldLink "ExactCurvesModel" (88 : Nat) "ExactCurvesModel" "isLoan" "[Z") ∈ qz_T := qz_mem 679 (by decide +kernel) rfl
theorem wq_636 : (Jvm.Cond.fieldLink "ExactCurvesModel" (91 : Nat) "ExactCurvesModel" "loanPlayers" "[I") ∈ qz_T := qz_mem 680 (by decide +kernel) rfl
theorem wq_637 : (Jvm.Cond.fieldLink "ExactCurvesModel" (94 : Nat) "ExactCurvesModel" "loanPools" "[I") ∈ qz_T := qz_mem 681 (by decide +kernel) rfl
theorem wq_638 : (Jvm.Cond.fieldLink "ExactCurvesModel" (97 : Nat) "ExactCurvesModel" "loanSides" "[I") ∈ qz_T := qz_mem 682 (by decide +kernel) rfl
theorem wq_639 : (Jvm.Cond.fieldLink "ExactCurvesModel" (100 : Nat) "ExactCurvesModel" "covers" "[J") ∈ qz_T := qz_mem 683 (by decide +kernel) rfl
theorem wq_640 : (Jvm.Cond.fieldLink "ExactCurvesModel" (103 : Nat) "ExactCurvesModel" "units" "[J") ∈ qz_T := qz_mem 684 (by decide +kernel) rfl
theorem wq_641 : (Jvm.Cond.fieldLink "ExactCurvesModel" (106 : Nat) "ExactCurvesModel" "big" "[J") ∈ qz_T := qz_mem 685 (by decide +kernel) rfl
theorem wq_642 : (Jvm.Cond.fieldLink "ExactCurvesModel" (109 : Nat) "ExactCurvesModel" "other" "[J") ∈ qz_T := qz_mem 686 (by decide +kernel) rfl
theorem wq_643 : (Jvm.Cond.fieldLink "ExactCurvesModel" (112 : Nat) "ExactCurvesModel" "sum" "[J") ∈ qz_T := qz_mem 687 (by decide +kernel) rfl
theorem wq_644 : (Jvm.Cond.fieldLink "ExactCurvesModel" (115 : Nat) "ExactCurvesModel" "piece" "[J") ∈ qz_T := qz_mem 688 (by decide +kernel) rfl
theorem wq_645 : (Jvm.Cond.fieldLink "ExactCurvesModel" (122 : Nat) "ExactCurvesModel" "rest" "J") ∈ qz_T := qz_mem 689 (by decide +kernel) rfl
theorem wq_646 : (Jvm.Cond.laysFinal "ExactCurvesModel" "ExactCurvesModel" "balances" "[J") ∈ qz_T := qz_mem 690 (by decide +kernel) rfl
theorem wq_648 : (Jvm.Cond.laysFinal "ExactCurvesModel" "ExactCurvesModel" "houses" "[J") ∈ qz_T := qz_mem 692 (by decide +kernel) rfl
theorem wq_650 : (Jvm.Cond.lays "ExactCurvesModel" "ExactCurvesModel" "clock" "I") ∈ qz_T := qz_mem 694 (by decide +kernel) rfl
theorem wq_652 : (Jvm.Cond.lays "ExactCurvesModel" "ExactCurvesModel" "pools" "I") ∈ qz_T := qz_mem 696 (by decide +kernel) rfl
theorem wq_654 : (Jvm.Cond.laysFinal "ExactCurvesModel" "ExactCurvesModel" "poolTokens" "[I") ∈ qz_T := qz_mem 698 (by decide +kernel) rfl
theorem wq_656 : (Jvm.Cond.laysFinal "ExactCurvesModel" "ExactCurvesModel" "kinds" "[I") ∈ qz_T := qz_mem 700 (by decide +kernel) rfl
theorem wq_658 : (Jvm.Cond.laysFinal "ExactCurvesModel" "ExactCurvesModel" "fees" "[I") ∈ qz_T := qz_mem 702 (by decide +kernel) rfl
theorem wq_660 : (Jvm.Cond.laysFinal "ExactCurvesModel" "ExactCurvesModel" "reserves" "[J") ∈ qz_T := qz_mem 704 (by decide +kernel) rfl
theorem wq_662 : (Jvm.Cond.laysFinal "ExactCurvesModel" "ExactCurvesModel" "allShares" "[J") ∈ qz_T := qz_mem 706 (by decide +kernel) rfl
theorem wq_664 : (Jvm.Cond.laysFinal "ExactCurvesModel" "ExactCurvesModel" "shares" "[J") ∈ qz_T := qz_mem 708 (by decide +kernel) rfl
theorem wq_666 : (Jvm.Cond.laysFinal "ExactCurvesModel" "ExactCurvesModel" "tallies" "[J") ∈ qz_T := qz_mem 710 (by decide +kernel) rfl
theorem wq_668 : (Jvm.Cond.laysFinal "ExactCurvesModel" "ExactCurvesModel" "ages" "[J") ∈ qz_T := qz_mem 712 (by decide +kernel) rfl
theorem wq_670 : (Jvm.Cond.laysFinal "ExactCurvesModel" "ExactCurvesModel" "markPools" "[I") ∈ qz_T := qz_mem 714 (by decide +kernel) rfl
theorem wq_672 : (Jvm.Cond.laysFinal "ExactCurvesModel" "ExactCurvesModel" "markTallies" "[J") ∈ qz_T := qz_mem 716 (by decide +kernel) rfl
theorem wq_674 : (Jvm.Cond.laysFinal "ExactCurvesModel" "ExactCurvesModel" "markAges" "[J") ∈ qz_T := qz_mem 718 (by decide +kernel) rfl
theorem wq_676 : (Jvm.Cond.lays "ExactCurvesModel" "ExactCurvesModel" "tokenA" "I") ∈ qz_T := qz_mem 720 (by decide +kernel) rfl
theorem wq_678 : (Jvm.Cond.lays "ExactCurvesModel" "ExactCurvesModel" "tokenB" "I") ∈ qz_T := qz_mem 722 (by decide +kernel) rfl
theorem wq_680 : (Jvm.Cond.lays "ExactCurvesModel" "ExactCurvesModel" "orders" "I") ∈ qz_T := qz_mem 724 (by decide +kernel) rfl
theorem wq_682 : (Jvm.Cond.laysFinal "ExactCurvesModel" "ExactCurvesModel" "orderPlayers" "[I") ∈ qz_T := qz_mem 726 (by decide +kernel) rfl
theorem wq_684 : (Jvm.Cond.laysFinal "ExactCurvesModel" "ExactCurvesModel" "buys" "[Z") ∈ qz_T := qz_mem 728 (by decide +kernel) rfl
theorem wq_686 : (Jvm.Cond.laysFinal "ExactCurvesModel" "ExactCurvesModel" "amounts" "[J") ∈ qz_T := qz_mem 730 (by decide +kernel) rfl
theorem wq_688 : (Jvm.Cond.laysFinal "ExactCurvesModel" "ExactCurvesModel" "limits" "[J") ∈ qz_T := qz_mem 732 (by decide +kernel) rfl
theorem wq_690 : (Jvm.Cond.lays "ExactCurvesModel" "ExactCurvesModel" "allDealt" "J") ∈ qz_T := qz_mem 734 (by decide +kernel) rfl
theorem wq_692 : (Jvm.Cond.lays "ExactCurvesModel" "ExactCurvesModel" "ordersThen" "I") ∈ qz_T := qz_mem 736 (by decide +kernel) rfl
theorem wq_694 : (Jvm.Cond.laysFinal "ExactCurvesModel" "ExactCurvesModel" "dealts" "[J") ∈ qz_T := qz_mem 738 (by decide +kernel) rfl
theorem wq_696 : (Jvm.Cond.laysFinal "ExactCurvesModel" "ExactCurvesModel" "taken" "[Z") ∈ qz_T := qz_mem 740 (by decide +kernel) rfl
theorem wq_698 : (Jvm.Cond.laysFinal "ExactCurvesModel" "ExactCurvesModel" "vaults" "[J") ∈ qz_T := qz_mem 742 (by decide +kernel) rfl
theorem wq_700 : (Jvm.Cond.laysFinal "ExactCurvesModel" "ExactCurvesModel" "allParts" "[J") ∈ qz_T := qz_mem 744 (by decide +kernel) rfl
theorem wq_702 : (Jvm.Cond.laysFinal "ExactCurvesModel" "ExactCurvesModel" "parts" "[J") ∈ qz_T := qz_mem 746 (by decide +kernel) rfl
theorem wq_704 : (Jvm.Cond.laysFinal "ExactCurvesModel" "ExactCurvesModel" "indexes" "[J") ∈ qz_T := qz_mem 748 (by decide +kernel) rfl
theorem wq_706 : (Jvm.Cond.laysFinal "ExactCurvesModel" "ExactCurvesModel" "rates" "[J") ∈ qz_T := qz_mem 750 (by decide +kernel) rfl
theorem wq_708 : (Jvm.Cond.laysFinal "ExactCurvesModel" "ExactCurvesModel" "isLoan" "[Z") ∈ qz_T := qz_mem 752 (by decide +kernel) rfl
theorem wq_710 : (Jvm.Cond.laysFinal "ExactCurvesModel" "ExactCurvesModel" "loanPlayers" "[I") ∈ qz_T := qz_mem 754 (by decide +kernel) rfl
theorem wq_712 : (Jvm.Cond.laysFinal "ExactCurvesModel" "ExactCurvesModel" "loanPools" "[I") ∈ qz_T := qz_mem 756 (by decide +kernel) rfl
theorem wq_714 : (Jvm.Cond.laysFinal "ExactCurvesModel" "ExactCurvesModel" "loanSides" "[I") ∈ qz_T := qz_mem 758 (by decide +kernel) rfl
theorem wq_716 : (Jvm.Cond.laysFinal "ExactCurvesModel" "ExactCurvesModel" "covers" "[J") ∈ qz_T := qz_mem 760 (by decide +kernel) rfl
theorem wq_718 : (Jvm.Cond.laysFinal "ExactCurvesModel" "ExactCurvesModel" "units" "[J") ∈ qz_T := qz_mem 762 (by decide +kernel) rfl
theorem wq_720 : (Jvm.Cond.laysFinal "ExactCurvesModel" "ExactCurvesModel" "big" "[J") ∈ qz_T := qz_mem 764 (by decide +kernel) rfl
theorem wq_722 : (Jvm.Cond.laysFinal "ExactCurvesModel" "ExactCurvesModel" "other" "[J") ∈ qz_T := qz_mem 766 (by decide +kernel) rfl
theorem wq_724 : (Jvm.Cond.laysFinal "ExactCurvesModel" "ExactCurvesModel" "sum" "[J") ∈ qz_T := qz_mem 768 (by decide +kernel) rfl
theorem wq_726 : (Jvm.Cond.laysFinal "ExactCurvesModel" "ExactCurvesModel" "piece" "[J") ∈ qz_T := qz_mem 770 (by decide +kernel) rfl
theorem wq_728 : (Jvm.Cond.lays "ExactCurvesModel" "ExactCurvesModel" "rest" "J") ∈ qz_T := qz_mem 772 (by decide +kernel) rfl
theorem wq_731 : (Jvm.Cond.methodLink "ExactCurvesLaw" (19 : Nat) ({ cls := "ExactCurvesModel", name := "mint", desc := "(IIJ)J" } : Jvm.MethodName)) ∈ qz_T := qz_mem 775 (by decide +kernel) rfl
theorem wq_732 : (Jvm.Cond.instanceMethod ({ cls := "ExactCurvesModel", name := "mint", desc := "(IIJ)J" } : Jvm.MethodName)) ∈ qz_T := qz_mem 776 (by decide +kernel) rfl
theorem wq_733 : (Jvm.Cond.selects "ExactCurvesModel" ({ cls := "ExactCurvesModel", name := "mint", desc := "(IIJ)J" } : Jvm.MethodName) ({ cls := "ExactCurvesModel", name := "mint", desc := "(IIJ)J" } : Jvm.MethodName)) ∈ qz_T := qz_mem 777 (by decide +kernel) rfl
theorem wq_734 : (Jvm.Cond.code ({ cls := "ExactCurvesModel", name := "mint", desc := "(IIJ)J" } : Jvm.MethodName) prog_10_method_17_code (5 : Nat) (Option.some Jvm.ClassFile.FieldType.long)) ∈ qz_T := qz_mem 778 (by decide +kernel) rfl
theorem wq_735 : (Jvm.Cond.methodLink "ExactCurvesModel" (166 : Nat) ({ cls := "ExactCurvesModel", name := "isPlayer", desc := "(I)Z" } : Jvm.MethodName)) ∈ qz_T := qz_mem 779 (by decide +kernel) rfl
theorem wq_736 : (Jvm.Cond.static ({ cls := "ExactCurvesModel", name := "isPlayer", desc := "(I)Z" } : Jvm.MethodName)) ∈ qz_T := qz_mem 780 (by decide +kernel) rfl
theorem wq_737 : (Jvm.Cond.code ({ cls := "ExactCurvesModel", name := "isPlayer", desc := "(I)Z" } : Jvm.MethodName) prog_10_method_10_code (1 : Nat) (Option.some Jvm.ClassFile.FieldType.boolean)) ∈ qz_T := qz_mem 781 (by decide +kernel) rfl
theorem wq_738 : (Jvm.Cond.methodLink "ExactCurvesModel" (170 : Nat) ({ cls := "ExactCurvesModel", name := "isToken", desc := "(I)Z" } : Jvm.MethodName)) ∈ qz_T := qz_mem 782 (by decide +kernel) rfl
theorem wq_739 : (Jvm.Cond.static ({ cls := "ExactCurvesModel", name := "isToken", desc := "(I)Z" } : Jvm.MethodName)) ∈ qz_T := qz_mem 783 (by decide +kernel) rfl
theorem wq_740 : (Jvm.Cond.code ({ cls := "ExactCurvesModel", name := "isToken", desc := "(I)Z" } : Jvm.MethodName) prog_10_method_11_code (1 : Nat) (Option.some Jvm.ClassFile.FieldType.boolean)) ∈ qz_T := qz_mem 784 (by decide +kernel) rfl
theorem wq_741 : (Jvm.Cond.constantLong "ExactCurvesModel" (173 : Nat) (100000000000000 : Int64)) ∈ qz_T := qz_mem 785 (by decide +kernel) rfl
theorem wq_742 : (Jvm.Cond.constantLong "ExactCurvesModel" (175 : Nat) (-2 : Int64)) ∈ qz_T := qz_mem 786 (by decide +kernel) rfl
theorem wq_743 : (Jvm.Cond.methodLink "ExactCurvesModel" (177 : Nat) ({ cls := "ExactCurvesModel", name := "allOf", desc := "(I)J" } : Jvm.MethodName)) ∈ qz_T := qz_mem 787 (by decide +kernel) rfl
theorem wq_745 : (Jvm.Cond.instanceMethod ({ cls := "ExactCurvesModel", name := "allOf", desc := "(I)J" } : Jvm.MethodName)) ∈ qz_T := qz_mem 789 (by decide +kernel) rfl
theorem wq_746 : (Jvm.Cond.code ({ cls := "ExactCurvesModel", name := "allOf", desc := "(I)J" } : Jvm.MethodName) prog_10_method_16_code (6 : Nat) (Option.some Jvm.ClassFile.FieldType.long)) ∈ qz_T := qz_mem 790 (by decide +kernel) rfl
theorem wq_747 : (Jvm.Cond.methodLink "ExactCurvesModel" (148 : Nat) ({ cls := "ExactCurvesModel", name := "has", desc := "(II)J" } : Jvm.MethodName)) ∈ qz_T := qz_mem 791 (by decide +kernel) rfl
theorem wq_749 : (Jvm.Cond.instanceMethod ({ cls := "ExactCurvesModel", name := "has", desc := "(II)J" } : Jvm.MethodName)) ∈ qz_T := qz_mem 793 (by decide +kernel) rfl
theorem wq_750 : (Jvm.Cond.code ({ cls := "ExactCurvesModel", name := "has", desc := "(II)J" } : Jvm.MethodName) prog_10_method_14_code (3 : Nat) (Option.some Jvm.ClassFile.FieldType.long)) ∈ qz_T := qz_mem 794 (by decide +kernel) rfl
theorem wq_751 : (Jvm.Cond.methodLink "ExactCurvesModel" (158 : Nat) ({ cls := "ExactCurvesModel", name := "heldBy", desc := "(I)J" } : Jvm.MethodName)) ∈ qz_T := qz_mem 795 (by decide +kernel) rfl
theorem wq_753 : (Jvm.Cond.instanceMethod ({ cls := "ExactCurvesModel", name := "heldBy", desc := "(I)J" } : Jvm.MethodName)) ∈ qz_T := qz_mem 797 (by decide +kernel) rfl
theorem wq_754 : (Jvm.Cond.code ({ cls := "ExactCurvesModel", name := "heldBy", desc := "(I)J" } : Jvm.MethodName) prog_10_method_36_code (2 : Nat) (Option.some Jvm.ClassFile.FieldType.long)) ∈ qz_T := qz_mem 798 (by decide +kernel) rfl
theorem wq_755 : (Jvm.Cond.constantLong "ExactCurvesModel" (218 : Nat) (1000 : Int64)) ∈ qz_T := qz_mem 799 (by decide +kernel) rfl
theorem wq_756 : (Jvm.Cond.methodLink "ExactCurvesModel" (227 : Nat) ({ cls := "ExactCurvesModel", name := "up", desc := "(JJ)J" } : Jvm.MethodName)) ∈ qz_T := qz_mem 800 (by decide +kernel) rfl
theorem wq_757 : (Jvm.Cond.static ({ cls := "ExactCurvesModel", name := "up", desc := "(JJ)J" } : Jvm.MethodName)) ∈ qz_T := qz_mem 801 (by decide +kernel) rfl
theorem wq_758 : (Jvm.Cond.code ({ cls := "ExactCurvesModel", name := "up", desc := "(JJ)J" } : Jvm.MethodName) prog_10_method_35_code (4 : Nat) (Option.some Jvm.ClassFile.FieldType.long)) ∈ qz_T := qz_mem 802 (by decide +kernel) rfl
theorem wq_759 : (Jvm.Cond.methodLink "ExactCurvesModel" (162 : Nat) ({ cls := "ExactCurvesModel", name := "coverToken", desc := "(I)I" } : Jvm.MethodName)) ∈ qz_T := qz_mem 803 (by decide +kernel) rfl
theorem wq_761 : (Jvm.Cond.instanceMethod ({ cls := "ExactCurvesModel", name := "coverToken", desc := "(I)I" } : Jvm.MethodName)) ∈ qz_T := qz_mem 805 (by decide +kernel) rfl
theorem wq_762 : (Jvm.Cond.code ({ cls := "ExactCurvesModel", name := "coverToken", desc := "(I)I" } : Jvm.MethodName) prog_10_method_44_code (2 : Nat) (Option.some Jvm.ClassFile.FieldType.int)) ∈ qz_T := qz_mem 806 (by decide +kernel) rfl
theorem wq_763 : (Jvm.Cond.constantLong "ExactCurvesModel" (180 : Nat) (-3 : Int64)) ∈ qz_T := qz_mem 807 (by decide +kernel) rfl
theorem wq_764 : (Jvm.Cond.methodLink "ExactCurvesModel" (182 : Nat) ({ cls := "ExactCurvesModel", name := "give", desc := "(IIJ)V" } : Jvm.MethodName)) ∈ qz_T := qz_mem 808 (by decide +kernel) rfl
theorem wq_766 : (Jvm.Cond.instanceMethod ({ cls := "ExactCurvesModel", name := "give", desc := "(IIJ)V" } : Jvm.MethodName)) ∈ qz_T := qz_mem 810 (by decide +kernel) rfl
theorem wq_767 : (Jvm.Cond.code ({ cls := "ExactCurvesModel", name := "give", desc := "(IIJ)V" } : Jvm.MethodName) prog_10_method_15_code (5 : Nat) (Option.none : Option Jvm.ClassFile.FieldType)) ∈ qz_T := qz_mem 811 (by decide +kernel) rfl
theorem wq_768 : (Jvm.Cond.methodLink "ExactCurvesLaw" (24 : Nat) ({ cls := "ExactCurvesModel", name := "balance", desc := "(II)J" } : Jvm.MethodName)) ∈ qz_T := qz_mem 812 (by decide +kernel) rfl
theorem wq_769 : (Jvm.Cond.instanceMethod ({ cls := "ExactCurvesModel", name := "balance", desc := "(II)J" } : Jvm.MethodName)) ∈ qz_T := qz_mem 813 (by decide +kernel) rfl
theorem wq_770 : (Jvm.Cond.selects "ExactCurvesModel" ({ cls := "ExactCurvesModel", name := "balance", desc := "(II)J" } : Jvm.MethodName) ({ cls := "ExactCurvesModel", name := "balance", desc := "(II)J" } : Jvm.MethodName)) ∈ qz_T := qz_mem 814 (by decide +kernel) rfl
theorem wq_771 : (Jvm.Cond.code ({ cls := "ExactCurvesModel", name := "balance", desc := "(II)J" } : Jvm.MethodName) prog_10_method_18_code (3 : Nat) (Option.some Jvm.ClassFile.FieldType.long)) ∈ qz_T := qz_mem 815 (by decide +kernel) rfl
theorem wq_772 : (Jvm.Cond.methodLink "ExactCurvesLaw" (29 : Nat) ({ cls := "ExactCurvesModel", name := "total", desc := "(I)J" } : Jvm.MethodName)) ∈ qz_T := qz_mem 816 (by decide +kernel) rfl
theorem wq_773 : (Jvm.Cond.instanceMethod ({ cls := "ExactCurvesModel", name := "total", desc := "(I)J" } : Jvm.MethodName)) ∈ qz_T := qz_mem 817 (by decide +kernel) rfl
theorem wq_774 : (Jvm.Cond.selects "ExactCurvesModel" ({ cls := "ExactCurvesModel", name := "total", desc := "(I)J" } : Jvm.MethodName) ({ cls := "ExactCurvesModel", name := "total", desc := "(I)J" } : Jvm.MethodName)) ∈ qz_T := qz_mem 818 (by decide +kernel) rfl
theorem wq_775 : (Jvm.Cond.code ({ cls := "ExactCurvesModel", name := "total", desc := "(I)J" } : Jvm.MethodName) prog_10_method_19_code (2 : Nat) (Option.some Jvm.ClassFile.FieldType.long)) ∈ qz_T := qz_mem 819 (by decide +kernel) rfl
theorem wq_776 : (Jvm.Cond.methodLink "ExactCurvesLaw" (33 : Nat) ({ cls := "ExactCurvesModel", name := "house", desc := "(I)J" } : Jvm.MethodName)) ∈ qz_T := qz_mem 820 (by decide +kernel) rfl
theorem wq_777 : (Jvm.Cond.instanceMethod ({ cls := "ExactCurvesModel", name := "house", desc := "(I)J" } : Jvm.MethodName)) ∈ qz_T := qz_mem 821 (by decide +kernel) rfl
theorem wq_778 : (Jvm.Cond.selects "ExactCurvesModel" ({ cls := "ExactCurvesModel", name := "house", desc := "(I)J" } : Jvm.MethodName) ({ cls := "ExactCurvesModel", name := "house", desc := "(I)J" } : Jvm.MethodName)) ∈ qz_T := qz_mem 822 (by decide +kernel) rfl
theorem wq_779 : (Jvm.Cond.code ({ cls := "ExactCurvesModel", name := "house", desc := "(I)J" } : Jvm.MethodName) prog_10_method_20_code (2 : Nat) (Option.some Jvm.ClassFile.FieldType.long)) ∈ qz_T := qz_mem 823 (by decide +kernel) rfl
theorem wq_780 : (Jvm.Cond.methodLink "ExactCurvesLaw" (38 : Nat) ({ cls := "ExactCurvesModel", name := "pool", desc := "(IIII)I" } : Jvm.MethodName)) ∈ qz_T := qz_mem 824 (by decide +kernel) rfl
theorem wq_781 : (Jvm.Cond.instanceMethod ({ cls := "ExactCurvesModel", name := "pool", desc := "(IIII)I" } : Jvm.MethodName)) ∈ qz_T := qz_mem 825 (by decide +kernel) rfl
theorem wq_782 : (Jvm.Cond.selects "ExactCurvesModel" ({ cls := "ExactCurvesModel", name := "pool", desc := "(IIII)I" } : Jvm.MethodName) ({ cls := "ExactCurvesModel", name := "pool", desc := "(IIII)I" } : Jvm.MethodName)) ∈ qz_T := qz_mem 826 (by decide +kernel) rfl
theorem wq_783 : (Jvm.Cond.code ({ cls := "ExactCurvesModel", name := "pool", desc := "(IIII)I" } : Jvm.MethodName) prog_10_method_21_code (5 : Nat) (Option.some Jvm.ClassFile.FieldType.int)) ∈ qz_T := qz_mem 827 (by decide +kernel) rfl
theorem wq_784 : (Jvm.Cond.methodLink "ExactCurvesLaw" (42 : Nat) ({ cls := "ExactCurvesModel", name := "of", desc := "(II)J" } : Jvm.MethodName)) ∈ qz_T := qz_mem 828 (by decide +kernel) rfl
theorem wq_785 : (Jvm.Cond.instanceMethod ({ cls := "ExactCurvesModel", name := "of", desc := "(II)J" } : Jvm.MethodName)) ∈ qz_T := qz_mem 829 (by decide +kernel) rfl
theorem wq_786 : (Jvm.Cond.selects "ExactCurvesModel" ({ cls := "ExactCurvesModel", name := "of", desc := "(II)J" } : Jvm.MethodName) ({ cls := "ExactCurvesModel", name := "of", desc := "(II)J" } : Jvm.MethodName)) ∈ qz_T := qz_mem 830 (by decide +kernel) rfl
theorem wq_787 : (Jvm.Cond.code ({ cls := "ExactCurvesModel", name := "of", desc := "(II)J" } : Jvm.MethodName) prog_10_method_22_code (3 : Nat) (Option.some Jvm.ClassFile.FieldType.long)) ∈ qz_T := qz_mem 831 (by decide +kernel) rfl
theorem wq_788 : (Jvm.Cond.methodLink "ExactCurvesModel" (186 : Nat) ({ cls := "ExactCurvesModel", name := "isPool", desc := "(I)Z" } : Jvm.MethodName)) ∈ qz_T := qz_mem 832 (by decide +kernel) rfl
theorem wq_790 : (Jvm.Cond.instanceMethod ({ cls := "ExactCurvesModel", name := "isPool", desc := "(I)Z" } : Jvm.MethodName)) ∈ qz_T := qz_mem 834 (by decide +kernel) rfl
theorem wq_791 : (Jvm.Cond.code ({ cls := "ExactCurvesModel", name := "isPool", desc := "(I)Z" } : Jvm.MethodName) prog_10_method_12_code (2 : Nat) (Option.some Jvm.ClassFile.FieldType.boolean)) ∈ qz_T := qz_mem 835 (by decide +kernel) rfl
theorem wq_792 : (Jvm.Cond.methodLink "ExactCurvesLaw" (47 : Nat) ({ cls := "ExactCurvesModel", name := "join", desc := "(IIJJ)J" } : Jvm.MethodName)) ∈ qz_T := qz_mem 836 (by decide +kernel) rfl
theorem wq_793 : (Jvm.Cond.instanceMethod ({ cls := "ExactCurvesModel", name := "join", desc := "(IIJJ)J" } : Jvm.MethodName)) ∈ qz_T := qz_mem 837 (by decide +kernel) rfl
theorem wq_794 : (Jvm.Cond.selects "ExactCurvesModel" ({ cls := "ExactCurvesModel", name := "join", desc := "(IIJJ)J" } : Jvm.MethodName) ({ cls := "ExactCurvesModel", name := "join", desc := "(IIJJ)J" } : Jvm.MethodName)) ∈ qz_T := qz_mem 838 (by decide +kernel) rfl
theorem wq_795 : (Jvm.Cond.code ({ cls := "ExactCurvesModel", name := "join", desc := "(IIJJ)J" } : Jvm.MethodName) prog_10_method_24_code (21 : Nat) (Option.some Jvm.ClassFile.FieldType.long)) ∈ qz_T := qz_mem 839 (by decide +kernel) rfl
theorem wq_796 : (Jvm.Cond.methodLink "ExactCurvesModel" (196 : Nat) ({ cls := "ExactCurvesModel", name := "root", desc := "(JJ)J" } : Jvm.MethodName)) ∈ qz_T := qz_mem 840 (by decide +kernel) rfl
theorem wq_798 : (Jvm.Cond.instanceMethod ({ cls := "ExactCurvesModel", name := "root", desc := "(JJ)J" } : Jvm.MethodName)) ∈ qz_T := qz_mem 842 (by decide +kernel) rfl
theorem wq_799 : (Jvm.Cond.code ({ cls := "ExactCurvesModel", name := "root", desc := "(JJ)J" } : Jvm.MethodName) prog_10_method_23_code (10 : Nat) (Option.some Jvm.ClassFile.FieldType.long)) ∈ qz_T := qz_mem 843 (by decide +kernel) rfl
theorem wq_800 : (Jvm.Cond.methodLink "ExactCurvesModel" (130 : Nat) ({ cls := "ExactCurvesModel", name := "begin", desc := "(J)V" } : Jvm.MethodName)) ∈ qz_T := qz_mem 844 (by decide +kernel) rfl
theorem wq_802 : (Jvm.Cond.instanceMethod ({ cls := "ExactCurvesModel", name := "begin", desc := "(J)V" } : Jvm.MethodName)) ∈ qz_T := qz_mem 846 (by decide +kernel) rfl
theorem wq_803 : (Jvm.Cond.code ({ cls := "ExactCurvesModel", name := "begin", desc := "(J)V" } : Jvm.MethodName) prog_10_method_2_code (4 : Nat) (Option.none : Option Jvm.ClassFile.FieldType)) ∈ qz_T := qz_mem 847 (by decide +kernel) rfl
theorem wq_804 : (Jvm.Cond.constantLong "ExactCurvesModel" (120 : Nat) (1073741823 : Int64)) ∈ qz_T := qz_mem 848 (by decide +kernel) rfl
theorem wq_805 : (Jvm.Cond.methodLink "ExactCurvesModel" (134 : Nat) ({ cls := "ExactCurvesModel", name := "times", desc := "(J)V" } : Jvm.MethodName)) ∈ qz_T := qz_mem 849 (by decide +kernel) rfl
theorem wq_807 : (Jvm.Cond.instanceMethod ({ cls := "ExactCurvesModel", name := "times", desc := "(J)V" } : Jvm.MethodName)) ∈ qz_T := qz_mem 851 (by decide +kernel) rfl
theorem wq_808 : (Jvm.Cond.code ({ cls := "ExactCurvesModel", name := "times", desc := "(J)V" } : Jvm.MethodName) prog_10_method_3_code (9 : Nat) (Option.none : Option Jvm.ClassFile.FieldType)) ∈ qz_T := qz_mem 852 (by decide +kernel) rfl
theorem wq_809 : (Jvm.Cond.methodLink "ExactCurvesModel" (189 : Nat) ({ cls := "ExactCurvesModel", name := "keepBig", desc := "()V" } : Jvm.MethodName)) ∈ qz_T := qz_mem 853 (by decide +kernel) rfl
theorem wq_811 : (Jvm.Cond.instanceMethod ({ cls := "ExactCurvesModel", name := "keepBig", desc := "()V" } : Jvm.MethodName)) ∈ qz_T := qz_mem 855 (by decide +kernel) rfl
theorem wq_812 : (Jvm.Cond.code ({ cls := "ExactCurvesModel", name := "keepBig", desc := "()V" } : Jvm.MethodName) prog_10_method_7_code (2 : Nat) (Option.none : Option Jvm.ClassFile.FieldType)) ∈ qz_T := qz_mem 856 (by decide +kernel) rfl
theorem wq_813 : (Jvm.Cond.methodLink "ExactCurvesModel" (192 : Nat) ({ cls := "ExactCurvesModel", name := "keptIsLess", desc := "()Z" } : Jvm.MethodName)) ∈ qz_T := qz_mem 857 (by decide +kernel) rfl
theorem wq_815 : (Jvm.Cond.instanceMethod ({ cls := "ExactCurvesModel", name := "keptIsLess", desc := "()Z" } : Jvm.MethodName)) ∈ qz_T := qz_mem 859 (by decide +kernel) rfl
theorem wq_816 : (Jvm.Cond.code ({ cls := "ExactCurvesModel", name := "keptIsLess", desc := "()Z" } : Jvm.MethodName) prog_10_method_8_code (2 : Nat) (Option.some Jvm.ClassFile.FieldType.boolean)) ∈ qz_T := qz_mem 860 (by decide +kernel) rfl
theorem wq_817 : (Jvm.Cond.methodLink "ExactCurvesModel" (141 : Nat) ({ cls := "ExactCurvesModel", name := "part", desc := "(JJJ)J" } : Jvm.MethodName)) ∈ qz_T := qz_mem 861 (by decide +kernel) rfl
theorem wq_819 : (Jvm.Cond.instanceMethod ({ cls := "ExactCurvesModel", name := "part", desc := "(JJJ)J" } : Jvm.MethodName)) ∈ qz_T := qz_mem 863 (by decide +kernel) rfl
theorem wq_820 : (Jvm.Cond.code ({ cls := "ExactCurvesModel", name := "part", desc := "(JJJ)J" } : Jvm.MethodName) prog_10_method_5_code (7 : Nat) (Option.some Jvm.ClassFile.FieldType.long)) ∈ qz_T := qz_mem 864 (by decide +kernel) rfl
theorem wq_821 : (Jvm.Cond.methodLink "ExactCurvesModel" (137 : Nat) ({ cls := "ExactCurvesModel", name := "over", desc := "(J)J" } : Jvm.MethodName)) ∈ qz_T := qz_mem 865 (by decide +kernel) rfl
theorem wq_823 : (Jvm.Cond.instanceMethod ({ cls := "ExactCurvesModel", name := "over", desc := "(J)J" } : Jvm.MethodName)) ∈ qz_T := qz_mem 867 (by decide +kernel) rfl
theorem wq_824 : (Jvm.Cond.code ({ cls := "ExactCurvesModel", name := "over", desc := "(J)J" } : Jvm.MethodName) prog_10_method_4_code (7 : Nat) (Option.some Jvm.ClassFile.FieldType.long)) ∈ qz_T := qz_mem 868 (by decide +kernel) rfl
theorem wq_825 : (Jvm.Cond.constantLong "ExactCurvesModel" (126 : Nat) (2 : Int64)) ∈ qz_T := qz_mem 869 (by decide +kernel) rfl
theorem wq_826 : (Jvm.Cond.constantLong "ExactCurvesModel" (128 : Nat) (4611686018427387904 : Int64)) ∈ qz_T := qz_mem 870 (by decide +kernel) rfl
theorem wq_827 : (Jvm.Cond.methodLink "ExactCurvesModel" (200 : Nat) ({ cls := "ExactCurvesModel", name := "least", desc := "(JJ)J" } : Jvm.MethodName)) ∈ qz_T := qz_mem 871 (by decide +kernel) rfl
theorem wq_828 : (Jvm.Cond.static ({ cls := "ExactCurvesModel", name := "least", desc := "(JJ)J" } : Jvm.MethodName)) ∈ qz_T := qz_mem 872 (by decide +kernel) rfl
theorem wq_829 : (Jvm.Cond.code ({ cls := "ExactCurvesModel", name := "least", desc := "(JJ)J" } : Jvm.MethodName) prog_10_method_9_code (4 : Nat) (Option.some Jvm.ClassFile.FieldType.long)) ∈ qz_T := qz_mem 873 (by decide +kernel) rfl
theorem wq_830 : (Jvm.Cond.methodLink "ExactCurvesModel" (203 : Nat) ({ cls := "ExactCurvesModel", name := "partUp", desc := "(JJJ)J" } : Jvm.MethodName)) ∈ qz_T := qz_mem 874 (by decide +kernel) rfl
theorem wq_832 : (Jvm.Cond.instanceMethod ({ cls := "ExactCurvesModel", name := "partUp", desc := "(JJJ)J" } : Jvm.MethodName)) ∈ qz_T := qz_mem 876 (by decide +kernel) rfl
theorem wq_833 : (Jvm.Cond.code ({ cls := "ExactCurvesModel", name := "partUp", desc := "(JJJ)J" } : Jvm.MethodName) prog_10_method_6_code (9 : Nat) (Option.some Jvm.ClassFile.FieldType.long)) ∈ qz_T := qz_mem 877 (by decide +kernel) rfl
theorem wq_834 : (Jvm.Cond.methodLink "ExactCurvesLaw" (51 : Nat) ({ cls := "ExactCurvesModel", name := "leave", desc := "(IIJ)J" } : Jvm.MethodName)) ∈ qz_T := qz_mem 878 (by decide +kernel) rfl
theorem wq_835 : (Jvm.Cond.instanceMethod ({ cls := "ExactCurvesModel", name := "leave", desc := "(IIJ)J" } : Jvm.MethodName)) ∈ qz_T := qz_mem 879 (by decide +kernel) rfl
theorem wq_836 : (Jvm.Cond.selects "ExactCurvesModel" ({ cls := "ExactCurvesModel", name := "leave", desc := "(IIJ)J" } : Jvm.MethodName) ({ cls := "ExactCurvesModel", name := "leave", desc := "(IIJ)J" } : Jvm.MethodName)) ∈ qz_T := qz_mem 880 (by decide +kernel) rfl
theorem wq_837 : (Jvm.Cond.code ({ cls := "ExactCurvesModel", name := "leave", desc := "(IIJ)J" } : Jvm.MethodName) prog_10_method_25_code (9 : Nat) (Option.some Jvm.ClassFile.FieldType.long)) ∈ qz_T := qz_mem 881 (by decide +kernel) rfl
theorem wq_838 : (Jvm.Cond.methodLink "ExactCurvesLaw" (56 : Nat) ({ cls := "ExactCurvesModel", name := "swap", desc := "(IIIJ)J" } : Jvm.MethodName)) ∈ qz_T := qz_mem 882 (by decide +kernel) rfl
theorem wq_839 : (Jvm.Cond.instanceMethod ({ cls := "ExactCurvesModel", name := "swap", desc := "(IIIJ)J" } : Jvm.MethodName)) ∈ qz_T := qz_mem 883 (by decide +kernel) rfl
theorem wq_840 : (Jvm.Cond.selects "ExactCurvesModel" ({ cls := "ExactCurvesModel", name := "swap", desc := "(IIIJ)J" } : Jvm.MethodName) ({ cls := "ExactCurvesModel", name := "swap", desc := "(IIIJ)J" } : Jvm.MethodName)) ∈ qz_T := qz_mem 884 (by decide +kernel) rfl
theorem wq_841 : (Jvm.Cond.code ({ cls := "ExactCurvesModel", name := "swap", desc := "(IIIJ)J" } : Jvm.MethodName) prog_10_method_27_code (9 : Nat) (Option.some Jvm.ClassFile.FieldType.long)) ∈ qz_T := qz_mem 885 (by decide +kernel) rfl
theorem wq_842 : (Jvm.Cond.methodLink "ExactCurvesModel" (208 : Nat) ({ cls := "ExactCurvesModel", name := "isSide", desc := "(I)Z" } : Jvm.MethodName)) ∈ qz_T := qz_mem 886 (by decide +kernel) rfl
theorem wq_843 : (Jvm.Cond.static ({ cls := "ExactCurvesModel", name := "isSide", desc := "(I)Z" } : Jvm.MethodName)) ∈ qz_T := qz_mem 887 (by decide +kernel) rfl
theorem wq_844 : (Jvm.Cond.code ({ cls := "ExactCurvesModel", name := "isSide", desc := "(I)Z" } : Jvm.MethodName) prog_10_method_13_code (1 : Nat) (Option.some Jvm.ClassFile.FieldType.boolean)) ∈ qz_T := qz_mem 888 (by decide +kernel) rfl
theorem wq_845 : (Jvm.Cond.methodLink "ExactCurvesModel" (211 : Nat) ({ cls := "ExactCurvesModel", name := "outOf", desc := "(IIJ)J" } : Jvm.MethodName)) ∈ qz_T := qz_mem 889 (by decide +kernel) rfl
theorem wq_847 : (Jvm.Cond.instanceMethod ({ cls := "ExactCurvesModel", name := "outOf", desc := "(IIJ)J" } : Jvm.MethodName)) ∈ qz_T := qz_mem 891 (by decide +kernel) rfl
theorem wq_848 : (Jvm.Cond.code ({ cls := "ExactCurvesModel", name := "outOf", desc := "(IIJ)J" } : Jvm.MethodName) prog_10_method_26_code (13 : Nat) (Option.some Jvm.ClassFile.FieldType.long)) ∈ qz_T := qz_mem 892 (by decide +kernel) rfl
theorem wq_849 : (Jvm.Cond.constantLong "ExactCurvesModel" (206 : Nat) (10000 : Int64)) ∈ qz_T := qz_mem 893 (by decide +kernel) rfl
theorem wq_850 : (Jvm.Cond.methodLink "ExactCurvesLaw" (60 : Nat) ({ cls := "ExactCurvesModel", name := "quote", desc := "(IIJ)J" } : Jvm.MethodName)) ∈ qz_T := qz_mem 894 (by decide +kernel) rfl
theorem wq_851 : (Jvm.Cond.instanceMethod ({ cls := "ExactCurvesModel", name := "quote", desc := "(IIJ)J" } : Jvm.MethodName)) ∈ qz_T := qz_mem 895 (by decide +kernel) rfl
theorem wq_852 : (Jvm.Cond.selects "ExactCurvesModel" ({ cls := "ExactCurvesModel", name := "quote", desc := "(IIJ)J" } : Jvm.MethodName) ({ cls := "ExactCurvesModel", name := "quote", desc := "(IIJ)J" } : Jvm.MethodName)) ∈ qz_T := qz_mem 896 (by decide +kernel) rfl
theorem wq_853 : (Jvm.Cond.code ({ cls := "ExactCurvesModel", name := "quote", desc := "(IIJ)J" } : Jvm.MethodName) prog_10_method_28_code (7 : Nat) (Option.some Jvm.ClassFile.FieldType.long)) ∈ qz_T := qz_mem 897 (by decide +kernel) rfl
theorem wq_854 : (Jvm.Cond.methodLink "ExactCurvesLaw" (65 : Nat) ({ cls := "ExactCurvesModel", name := "flash", desc := "(IIJJJJ)I" } : Jvm.MethodName)) ∈ qz_T := qz_mem 898 (by decide +kernel) rfl
theorem wq_855 : (Jvm.Cond.instanceMethod ({ cls := "ExactCurvesModel", name := "flash", desc := "(IIJJJJ)I" } : Jvm.MethodName)) ∈ qz_T := qz_mem 899 (by decide +kernel) rfl
theorem wq_856 : (Jvm.Cond.selects "ExactCurvesModel" ({ cls := "ExactCurvesModel", name := "flash", desc := "(IIJJJJ)I" } : Jvm.MethodName) ({ cls := "ExactCurvesModel", name := "flash", desc := "(IIJJJJ)I" } : Jvm.MethodName)) ∈ qz_T := qz_mem 900 (by decide +kernel) rfl
theorem wq_857 : (Jvm.Cond.code ({ cls := "ExactCurvesModel", name := "flash", desc := "(IIJJJJ)I" } : Jvm.MethodName) prog_10_method_29_code (27 : Nat) (Option.some Jvm.ClassFile.FieldType.int)) ∈ qz_T := qz_mem 901 (by decide +kernel) rfl
theorem wq_858 : (Jvm.Cond.methodLink "ExactCurvesLaw" (70 : Nat) ({ cls := "ExactCurvesModel", name := "tick", desc := "(I)I" } : Jvm.MethodName)) ∈ qz_T := qz_mem 902 (by decide +kernel) rfl
theorem wq_859 : (Jvm.Cond.instanceMethod ({ cls := "ExactCurvesModel", name := "tick", desc := "(I)I" } : Jvm.MethodName)) ∈ qz_T := qz_mem 903 (by decide +kernel) rfl
theorem wq_860 : (Jvm.Cond.selects "ExactCurvesModel" ({ cls := "ExactCurvesModel", name := "tick", desc := "(I)I" } : Jvm.MethodName) ({ cls := "ExactCurvesModel", name := "tick", desc := "(I)I" } : Jvm.MethodName)) ∈ qz_T := qz_mem 904 (by decide +kernel) rfl
theorem wq_861 : (Jvm.Cond.code ({ cls := "ExactCurvesModel", name := "tick", desc := "(I)I" } : Jvm.MethodName) prog_10_method_31_code (3 : Nat) (Option.some Jvm.ClassFile.FieldType.int)) ∈ qz_T := qz_mem 905 (by decide +kernel) rfl
theorem wq_862 : (Jvm.Cond.methodLink "ExactCurvesModel" (222 : Nat) ({ cls := "ExactCurvesModel", name := "tickOnce", desc := "()V" } : Jvm.MethodName)) ∈ qz_T := qz_mem 906 (by decide +kernel) rfl
theorem wq_864 : (Jvm.Cond.instanceMethod ({ cls := "ExactCurvesModel", name := "tickOnce", desc := "()V" } : Jvm.MethodName)) ∈ qz_T := qz_mem 908 (by decide +kernel) rfl
theorem wq_865 : (Jvm.Cond.code ({ cls := "ExactCurvesModel", name := "tickOnce", desc := "()V" } : Jvm.MethodName) prog_10_method_30_code (2 : Nat) (Option.none : Option Jvm.ClassFile.FieldType)) ∈ qz_T := qz_mem 909 (by decide +kernel) rfl
theorem wq_866 : (Jvm.Cond.constantLong "ExactCurvesModel" (220 : Nat) (1000000000000 : Int64)) ∈ qz_T := qz_mem 910 (by decide +kernel) rfl
theorem wq_867 : (Jvm.Cond.methodLink "ExactCurvesLaw" (75 : Nat) ({ cls := "ExactCurvesModel", name := "mark", desc := "(II)I" } : Jvm.MethodName)) ∈ qz_T := qz_mem 911 (by decide +kernel) rfl
theorem wq_868 : (Jvm.Cond.instanceMethod ({ cls := "ExactCurvesModel", name := "mark", desc := "(II)I" } : Jvm.MethodName)) ∈ qz_T := qz_mem 912 (by decide +kernel) rfl
theorem wq_869 : (Jvm.Cond.selects "ExactCurvesModel" ({ cls := "ExactCurvesModel", name := "mark", desc := "(II)I" } : Jvm.MethodName) ({ cls := "ExactCurvesModel", name := "mark", desc := "(II)I" } : Jvm.MethodName)) ∈ qz_T := qz_mem 913 (by decide +kernel) rfl
theorem wq_870 : (Jvm.Cond.code ({ cls := "ExactCurvesModel", name := "mark", desc := "(II)I" } : Jvm.MethodName) prog_10_method_32_code (3 : Nat) (Option.some Jvm.ClassFile.FieldType.int)) ∈ qz_T := qz_mem 914 (by decide +kernel) rfl
theorem wq_871 : (Jvm.Cond.methodLink "ExactCurvesLaw" (79 : Nat) ({ cls := "ExactCurvesModel", name := "mean", desc := "(I)J" } : Jvm.MethodName)) ∈ qz_T := qz_mem 915 (by decide +kernel) rfl
theorem wq_872 : (Jvm.Cond.instanceMethod ({ cls := "ExactCurvesModel", name := "mean", desc := "(I)J" } : Jvm.MethodName)) ∈ qz_T := qz_mem 916 (by decide +kernel) rfl
theorem wq_873 : (Jvm.Cond.selects "ExactCurvesModel" ({ cls := "ExactCurvesModel", name := "mean", desc := "(I)J" } : Jvm.MethodName) ({ cls := "ExactCurvesModel", name := "mean", desc := "(I)J" } : Jvm.MethodName)) ∈ qz_T := qz_mem 917 (by decide +kernel) rfl
theorem wq_874 : (Jvm.Cond.code ({ cls := "ExactCurvesModel", name := "mean", desc := "(I)J" } : Jvm.MethodName) prog_10_method_33_code (4 : Nat) (Option.some Jvm.ClassFile.FieldType.long)) ∈ qz_T := qz_mem 918 (by decide +kernel) rfl
theorem wq_875 : (Jvm.Cond.constantLong "ExactCurvesModel" (225 : Nat) (-1 : Int64)) ∈ qz_T := qz_mem 919 (by decide +kernel) rfl
theorem wq_876 : (Jvm.Cond.methodLink "ExactCurvesLaw" (83 : Nat) ({ cls := "ExactCurvesModel", name := "batch", desc := "(II)I" } : Jvm.MethodName)) ∈ qz_T := qz_mem 920 (by decide +kernel) rfl
theorem wq_877 : (Jvm.Cond.instanceMethod ({ cls := "ExactCurvesModel", name := "batch", desc := "(II)I" } : Jvm.MethodName)) ∈ qz_T := qz_mem 921 (by decide +kernel) rfl
theorem wq_878 : (Jvm.Cond.selects "ExactCurvesModel" ({ cls := "ExactCurvesModel", name := "batch", desc := "(II)I" } : Jvm.MethodName) ({ cls := "ExactCurvesModel", name := "batch", desc := "(II)I" } : Jvm.MethodName)) ∈ qz_T := qz_mem 922 (by decide +kernel) rfl
theorem wq_879 : (Jvm.Cond.code ({ cls := "ExactCurvesModel", name := "batch", desc := "(II)I" } : Jvm.MethodName) prog_10_method_34_code (3 : Nat) (Option.some Jvm.ClassFile.FieldType.int)) ∈ qz_T := qz_mem 923 (by decide +kernel) rfl
theorem wq_880 : (Jvm.Cond.methodLink "ExactCurvesLaw" (88 : Nat) ({ cls := "ExactCurvesModel", name := "order", desc := "(IIJJ)I" } : Jvm.MethodName)) ∈ qz_T := qz_mem 924 (by decide +kernel) rfl
theorem wq_881 : (Jvm.Cond.instanceMethod ({ cls := "ExactCurvesModel", name := "order", desc := "(IIJJ)I" } : Jvm.MethodName)) ∈ qz_T := qz_mem 925 (by decide +kernel) rfl
theorem wq_882 : (Jvm.Cond.selects "ExactCurvesModel" ({ cls := "ExactCurvesModel", name := "order", desc := "(IIJJ)I" } : Jvm.MethodName) ({ cls := "ExactCurvesModel", name := "order", desc := "(IIJJ)I" } : Jvm.MethodName)) ∈ qz_T := qz_mem 926 (by decide +kernel) rfl
theorem wq_883 : (Jvm.Cond.code ({ cls := "ExactCurvesModel", name := "order", desc := "(IIJJ)I" } : Jvm.MethodName) prog_10_method_37_code (9 : Nat) (Option.some Jvm.ClassFile.FieldType.int)) ∈ qz_T := qz_mem 927 (by decide +kernel) rfl
theorem wq_884 : (Jvm.Cond.constantLong "ExactCurvesModel" (230 : Nat) (10000000000 : Int64)) ∈ qz_T := qz_mem 928 (by decide +kernel) rfl
theorem wq_885 : (Jvm.Cond.constantLong "ExactCurvesModel" (232 : Nat) (1000000 : Int64)) ∈ qz_T := qz_mem 929 (by decide +kernel) rfl
theorem wq_886 : (Jvm.Cond.methodLink "ExactCurvesLaw" (93 : Nat) ({ cls := "ExactCurvesModel", name := "clear", desc := "()J" } : Jvm.MethodName)) ∈ qz_T := qz_mem 930 (by decide +kernel) rfl
theorem wq_887 : (Jvm.Cond.instanceMethod ({ cls := "ExactCurvesModel", name := "clear", desc := "()J" } : Jvm.MethodName)) ∈ qz_T := qz_mem 931 (by decide +kernel) rfl
theorem wq_888 : (Jvm.Cond.selects "ExactCurvesModel" ({ cls := "ExactCurvesModel", name := "clear", desc := "()J" } : Jvm.MethodName) ({ cls := "ExactCurvesModel", name := "clear", desc := "()J" } : Jvm.MethodName)) ∈ qz_T := qz_mem 932 (by decide +kernel) rfl
theorem wq_889 : (Jvm.Cond.code ({ cls := "ExactCurvesModel", name := "clear", desc := "()J" } : Jvm.MethodName) prog_10_method_41_code (11 : Nat) (Option.some Jvm.ClassFile.FieldType.long)) ∈ qz_T := qz_mem 933 (by decide +kernel) rfl
theorem wq_890 : (Jvm.Cond.methodLink "ExactCurvesModel" (238 : Nat) ({ cls := "ExactCurvesModel", name := "bestPrice", desc := "()J" } : Jvm.MethodName)) ∈ qz_T := qz_mem 934 (by decide +kernel) rfl
theorem wq_892 : (Jvm.Cond.instanceMethod ({ cls := "ExactCurvesModel", name := "bestPrice", desc := "()J" } : Jvm.MethodName)) ∈ qz_T := qz_mem 936 (by decide +kernel) rfl
theorem wq_893 : (Jvm.Cond.code ({ cls := "ExactCurvesModel", name := "bestPrice", desc := "()J" } : Jvm.MethodName) prog_10_method_39_code (19 : Nat) (Option.some Jvm.ClassFile.FieldType.long)) ∈ qz_T := qz_mem 937 (by decide +kernel) rfl
theorem wq_894 : (Jvm.Cond.methodLink "ExactCurvesModel" (234 : Nat) ({ cls := "ExactCurvesModel", name := "allAt", desc := "(ZJ)J" } : Jvm.MethodName)) ∈ qz_T := qz_mem 938 (by decide +kernel) rfl
theorem wq_896 : (Jvm.Cond.instanceMethod ({ cls := "ExactCurvesModel", name := "allAt", desc := "(ZJ)J" } : Jvm.MethodName)) ∈ qz_T := qz_mem 940 (by decide +kernel) rfl
theorem wq_897 : (Jvm.Cond.code ({ cls := "ExactCurvesModel", name := "allAt", desc := "(ZJ)J" } : Jvm.MethodName) prog_10_method_38_code (8 : Nat) (Option.some Jvm.ClassFile.FieldType.long)) ∈ qz_T := qz_mem 941 (by decide +kernel) rfl
theorem wq_898 : (Jvm.Cond.methodLink "ExactCurvesModel" (248 : Nat) ({ cls := "ExactCurvesModel", name := "deal", desc := "(ZJJ)V" } : Jvm.MethodName)) ∈ qz_T := qz_mem 942 (by decide +kernel) rfl
theorem wq_900 : (Jvm.Cond.instanceMethod ({ cls := "ExactCurvesModel", name := "deal", desc := "(ZJJ)V" } : Jvm.MethodName)) ∈ qz_T := qz_mem 944 (by decide +kernel) rfl
theorem wq_901 : (Jvm.Cond.code ({ cls := "ExactCurvesModel", name := "deal", desc := "(ZJJ)V" } : Jvm.MethodName) prog_10_method_40_code (12 : Nat) (Option.none : Option Jvm.ClassFile.FieldType)) ∈ qz_T := qz_mem 945 (by decide +kernel) rfl
theorem wq_902 : (Jvm.Cond.methodLink "ExactCurvesLaw" (97 : Nat) ({ cls := "ExactCurvesModel", name := "dealt", desc := "(I)J" } : Jvm.MethodName)) ∈ qz_T := qz_mem 946 (by decide +kernel) rfl
theorem wq_903 : (Jvm.Cond.instanceMethod ({ cls := "ExactCurvesModel", name := "dealt", desc := "(I)J" } : Jvm.MethodName)) ∈ qz_T := qz_mem 947 (by decide +kernel) rfl
theorem wq_904 : (Jvm.Cond.selects "ExactCurvesModel" ({ cls := "ExactCurvesModel", name := "dealt", desc := "(I)J" } : Jvm.MethodName) ({ cls := "ExactCurvesModel", name := "dealt", desc := "(I)J" } : Jvm.MethodName)) ∈ qz_T := qz_mem 948 (by decide +kernel) rfl
theorem wq_905 : (Jvm.Cond.code ({ cls := "ExactCurvesModel", name := "dealt", desc := "(I)J" } : Jvm.MethodName) prog_10_method_42_code (2 : Nat) (Option.some Jvm.ClassFile.FieldType.long)) ∈ qz_T := qz_mem 949 (by decide +kernel) rfl
theorem wq_906 : (Jvm.Cond.methodLink "ExactCurvesLaw" (102 : Nat) ({ cls := "ExactCurvesModel", name := "rate", desc := "(IJ)J" } : Jvm.MethodName)) ∈ qz_T := qz_mem 950 (by decide +kernel) rfl
theorem wq_907 : (Jvm.Cond.instanceMethod ({ cls := "ExactCurvesModel", name := "rate", desc := "(IJ)J" } : Jvm.MethodName)) ∈ qz_T := qz_mem 951 (by decide +kernel) rfl
theorem wq_908 : (Jvm.Cond.selects "ExactCurvesModel" ({ cls := "ExactCurvesModel", name := "rate", desc := "(IJ)J" } : Jvm.MethodName) ({ cls := "ExactCurvesModel", name := "rate", desc := "(IJ)J" } : Jvm.MethodName)) ∈ qz_T := qz_mem 952 (by decide +kernel) rfl
theorem wq_909 : (Jvm.Cond.code ({ cls := "ExactCurvesModel", name := "rate", desc := "(IJ)J" } : Jvm.MethodName) prog_10_method_43_code (6 : Nat) (Option.some Jvm.ClassFile.FieldType.long)) ∈ qz_T := qz_mem 953 (by decide +kernel) rfl
theorem wq_910 : (Jvm.Cond.methodLink "ExactCurvesLaw" (106 : Nat) ({ cls := "ExactCurvesModel", name := "lend", desc := "(IIJ)J" } : Jvm.MethodName)) ∈ qz_T := qz_mem 954 (by decide +kernel) rfl
theorem wq_911 : (Jvm.Cond.instanceMethod ({ cls := "ExactCurvesModel", name := "lend", desc := "(IIJ)J" } : Jvm.MethodName)) ∈ qz_T := qz_mem 955 (by decide +kernel) rfl
theorem wq_912 : (Jvm.Cond.selects "ExactCurvesModel" ({ cls := "ExactCurvesModel", name := "lend", desc := "(IIJ)J" } : Jvm.MethodName) ({ cls := "ExactCurvesModel", name := "lend", desc := "(IIJ)J" } : Jvm.MethodName)) ∈ qz_T := qz_mem 956 (by decide +kernel) rfl
theorem wq_913 : (Jvm.Cond.code ({ cls := "ExactCurvesModel", name := "lend", desc := "(IIJ)J" } : Jvm.MethodName) prog_10_method_48_code (7 : Nat) (Option.some Jvm.ClassFile.FieldType.long)) ∈ qz_T := qz_mem 957 (by decide +kernel) rfl
theorem wq_914 : (Jvm.Cond.methodLink "ExactCurvesModel" (258 : Nat) ({ cls := "ExactCurvesModel", name := "worthOf", desc := "(I)J" } : Jvm.MethodName)) ∈ qz_T := qz_mem 958 (by decide +kernel) rfl
theorem wq_916 : (Jvm.Cond.instanceMethod ({ cls := "ExactCurvesModel", name := "worthOf", desc := "(I)J" } : Jvm.MethodName)) ∈ qz_T := qz_mem 960 (by decide +kernel) rfl
theorem wq_917 : (Jvm.Cond.code ({ cls := "ExactCurvesModel", name := "worthOf", desc := "(I)J" } : Jvm.MethodName) prog_10_method_47_code (5 : Nat) (Option.some Jvm.ClassFile.FieldType.long)) ∈ qz_T := qz_mem 961 (by decide +kernel) rfl
theorem wq_918 : (Jvm.Cond.methodLink "ExactCurvesModel" (252 : Nat) ({ cls := "ExactCurvesModel", name := "debtToken", desc := "(I)I" } : Jvm.MethodName)) ∈ qz_T := qz_mem 962 (by decide +kernel) rfl
theorem wq_920 : (Jvm.Cond.instanceMethod ({ cls := "ExactCurvesModel", name := "debtToken", desc := "(I)I" } : Jvm.MethodName)) ∈ qz_T := qz_mem 964 (by decide +kernel) rfl
theorem wq_921 : (Jvm.Cond.code ({ cls := "ExactCurvesModel", name := "debtToken", desc := "(I)I" } : Jvm.MethodName) prog_10_method_45_code (2 : Nat) (Option.some Jvm.ClassFile.FieldType.int)) ∈ qz_T := qz_mem 965 (by decide +kernel) rfl
theorem wq_922 : (Jvm.Cond.methodLink "ExactCurvesModel" (255 : Nat) ({ cls := "ExactCurvesModel", name := "debtOf", desc := "(I)J" } : Jvm.MethodName)) ∈ qz_T := qz_mem 966 (by decide +kernel) rfl
theorem wq_924 : (Jvm.Cond.instanceMethod ({ cls := "ExactCurvesModel", name := "debtOf", desc := "(I)J" } : Jvm.MethodName)) ∈ qz_T := qz_mem 968 (by decide +kernel) rfl
theorem wq_925 : (Jvm.Cond.code ({ cls := "ExactCurvesModel", name := "debtOf", desc := "(I)J" } : Jvm.MethodName) prog_10_method_46_code (2 : Nat) (Option.some Jvm.ClassFile.FieldType.long)) ∈ qz_T := qz_mem 969 (by decide +kernel) rfl
theorem wq_926 : (Jvm.Cond.methodLink "ExactCurvesLaw" (110 : Nat) ({ cls := "ExactCurvesModel", name := "redeem", desc := "(IIJ)J" } : Jvm.MethodName)) ∈ qz_T := qz_mem 970 (by decide +kernel) rfl
theorem wq_927 : (Jvm.Cond.instanceMethod ({ cls := "ExactCurvesModel", name := "redeem", desc := "(IIJ)J" } : Jvm.MethodName)) ∈ qz_T := qz_mem 971 (by decide +kernel) rfl
theorem wq_928 : (Jvm.Cond.selects "ExactCurvesModel" ({ cls := "ExactCurvesModel", name := "redeem", desc := "(IIJ)J" } : Jvm.MethodName) ({ cls := "ExactCurvesModel", name := "redeem", desc := "(IIJ)J" } : Jvm.MethodName)) ∈ qz_T := qz_mem 972 (by decide +kernel) rfl
theorem wq_929 : (Jvm.Cond.code ({ cls := "ExactCurvesModel", name := "redeem", desc := "(IIJ)J" } : Jvm.MethodName) prog_10_method_49_code (7 : Nat) (Option.some Jvm.ClassFile.FieldType.long)) ∈ qz_T := qz_mem 973 (by decide +kernel) rfl
theorem wq_930 : (Jvm.Cond.methodLink "ExactCurvesLaw" (114 : Nat) ({ cls := "ExactCurvesModel", name := "vault", desc := "(II)J" } : Jvm.MethodName)) ∈ qz_T := qz_mem 974 (by decide +kernel) rfl
theorem wq_931 : (Jvm.Cond.instanceMethod ({ cls := "ExactCurvesModel", name := "vault", desc := "(II)J" } : Jvm.MethodName)) ∈ qz_T := qz_mem 975 (by decide +kernel) rfl
theorem wq_932 : (Jvm.Cond.selects "ExactCurvesModel" ({ cls := "ExactCurvesModel", name := "vault", desc := "(II)J" } : Jvm.MethodName) ({ cls := "ExactCurvesModel", name := "vault", desc := "(II)J" } : Jvm.MethodName)) ∈ qz_T := qz_mem 976 (by decide +kernel) rfl
theorem wq_933 : (Jvm.Cond.code ({ cls := "ExactCurvesModel", name := "vault", desc := "(II)J" } : Jvm.MethodName) prog_10_method_50_code (3 : Nat) (Option.some Jvm.ClassFile.FieldType.long)) ∈ qz_T := qz_mem 977 (by decide +kernel) rfl
theorem wq_934 : (Jvm.Cond.methodLink "ExactCurvesLaw" (119 : Nat) ({ cls := "ExactCurvesModel", name := "loan", desc := "(IIIJJ)I" } : Jvm.MethodName)) ∈ qz_T := qz_mem 978 (by decide +kernel) rfl
theorem wq_935 : (Jvm.Cond.instanceMethod ({ cls := "ExactCurvesModel", name := "loan", desc := "(IIIJJ)I" } : Jvm.MethodName)) ∈ qz_T := qz_mem 979 (by decide +kernel) rfl
theorem wq_936 : (Jvm.Cond.selects "ExactCurvesModel" ({ cls := "ExactCurvesModel", name := "loan", desc := "(IIIJJ)I" } : Jvm.MethodName) ({ cls := "ExactCurvesModel", name := "loan", desc := "(IIIJJ)I" } : Jvm.MethodName)) ∈ qz_T := qz_mem 980 (by decide +kernel) rfl
theorem wq_937 : (Jvm.Cond.code ({ cls := "ExactCurvesModel", name := "loan", desc := "(IIIJJ)I" } : Jvm.MethodName) prog_10_method_55_code (11 : Nat) (Option.some Jvm.ClassFile.FieldType.int)) ∈ qz_T := qz_mem 981 (by decide +kernel) rfl
theorem wq_938 : (Jvm.Cond.constantLong "ExactCurvesModel" (266 : Nat) (100 : Int64)) ∈ qz_T := qz_mem 982 (by decide +kernel) rfl
theorem wq_939 : (Jvm.Cond.constantLong "ExactCurvesModel" (277 : Nat) (60 : Int64)) ∈ qz_T := qz_mem 983 (by decide +kernel) rfl
theorem wq_940 : (Jvm.Cond.methodLink "ExactCurvesModel" (263 : Nat) ({ cls := "ExactCurvesModel", name := "valueOf", desc := "(IIJ)J" } : Jvm.MethodName)) ∈ qz_T := qz_mem 984 (by decide +kernel) rfl
theorem wq_942 : (Jvm.Cond.instanceMethod ({ cls := "ExactCurvesModel", name := "valueOf", desc := "(IIJ)J" } : Jvm.MethodName)) ∈ qz_T := qz_mem 986 (by decide +kernel) rfl
theorem wq_943 : (Jvm.Cond.code ({ cls := "ExactCurvesModel", name := "valueOf", desc := "(IIJ)J" } : Jvm.MethodName) prog_10_method_51_code (7 : Nat) (Option.some Jvm.ClassFile.FieldType.long)) ∈ qz_T := qz_mem 987 (by decide +kernel) rfl
theorem wq_944 : (Jvm.Cond.constantLong "ExactCurvesModel" (261 : Nat) (1000000000000000000 : Int64)) ∈ qz_T := qz_mem 988 (by decide +kernel) rfl
theorem wq_945 : (Jvm.Cond.methodLink "ExactCurvesModel" (273 : Nat) ({ cls := "ExactCurvesModel", name := "isAbove", desc := "(JJJJ)Z" } : Jvm.MethodName)) ∈ qz_T := qz_mem 989 (by decide +kernel) rfl
theorem wq_947 : (Jvm.Cond.instanceMethod ({ cls := "ExactCurvesModel", name := "isAbove", desc := "(JJJJ)Z" } : Jvm.MethodName)) ∈ qz_T := qz_mem 991 (by decide +kernel) rfl
theorem wq_948 : (Jvm.Cond.code ({ cls := "ExactCurvesModel", name := "isAbove", desc := "(JJJJ)Z" } : Jvm.MethodName) prog_10_method_52_code (9 : Nat) (Option.some Jvm.ClassFile.FieldType.boolean)) ∈ qz_T := qz_mem 992 (by decide +kernel) rfl
theorem wq_949 : (Jvm.Cond.methodLink "ExactCurvesLaw" (123 : Nat) ({ cls := "ExactCurvesModel", name := "ofLoan", desc := "(II)J" } : Jvm.MethodName)) ∈ qz_T := qz_mem 993 (by decide +kernel) rfl
theorem wq_950 : (Jvm.Cond.instanceMethod ({ cls := "ExactCurvesModel", name := "ofLoan", desc := "(II)J" } : Jvm.MethodName)) ∈ qz_T := qz_mem 994 (by decide +kernel) rfl
theorem wq_951 : (Jvm.Cond.selects "ExactCurvesModel" ({ cls := "ExactCurvesModel", name := "ofLoan", desc := "(II)J" } : Jvm.MethodName) ({ cls := "ExactCurvesModel", name := "ofLoan", desc := "(II)J" } : Jvm.MethodName)) ∈ qz_T := qz_mem 995 (by decide +kernel) rfl
theorem wq_952 : (Jvm.Cond.code ({ cls := "ExactCurvesModel", name := "ofLoan", desc := "(II)J" } : Jvm.MethodName) prog_10_method_57_code (3 : Nat) (Option.some Jvm.ClassFile.FieldType.long)) ∈ qz_T := qz_mem 996 (by decide +kernel) rfl
theorem wq_953 : (Jvm.Cond.methodLink "ExactCurvesModel" (279 : Nat) ({ cls := "ExactCurvesModel", name := "isOpen", desc := "(I)Z" } : Jvm.MethodName)) ∈ qz_T := qz_mem 997 (by decide +kernel) rfl
theorem wq_955 : (Jvm.Cond.instanceMethod ({ cls := "ExactCurvesModel", name := "isOpen", desc := "(I)Z" } : Jvm.MethodName)) ∈ qz_T := qz_mem 999 (by decide +kernel) rfl
theorem wq_956 : (Jvm.Cond.code ({ cls := "ExactCurvesModel", name := "isOpen", desc := "(I)Z" } : Jvm.MethodName) prog_10_method_56_code (2 : Nat) (Option.some Jvm.ClassFile.FieldType.boolean)) ∈ qz_T := qz_mem 1000 (by decide +kernel) rfl
theorem wq_957 : (Jvm.Cond.methodLink "ExactCurvesModel" (270 : Nat) ({ cls := "ExactCurvesModel", name := "coverValue", desc := "(I)J" } : Jvm.MethodName)) ∈ qz_T := qz_mem 1001 (by decide +kernel) rfl
theorem wq_959 : (Jvm.Cond.instanceMethod ({ cls := "ExactCurvesModel", name := "coverValue", desc := "(I)J" } : Jvm.MethodName)) ∈ qz_T := qz_mem 1003 (by decide +kernel) rfl
theorem wq_960 : (Jvm.Cond.code ({ cls := "ExactCurvesModel", name := "coverValue", desc := "(I)J" } : Jvm.MethodName) prog_10_method_53_code (2 : Nat) (Option.some Jvm.ClassFile.FieldType.long)) ∈ qz_T := qz_mem 1004 (by decide +kernel) rfl
theorem wq_961 : (Jvm.Cond.methodLink "ExactCurvesModel" (282 : Nat) ({ cls := "ExactCurvesModel", name := "isUncovered", desc := "(I)Z" } : Jvm.MethodName)) ∈ qz_T := qz_mem 1005 (by decide +kernel) rfl
theorem wq_963 : (Jvm.Cond.instanceMethod ({ cls := "ExactCurvesModel", name := "isUncovered", desc := "(I)Z" } : Jvm.MethodName)) ∈ qz_T := qz_mem 1007 (by decide +kernel) rfl
theorem wq_964 : (Jvm.Cond.code ({ cls := "ExactCurvesModel", name := "isUncovered", desc := "(I)Z" } : Jvm.MethodName) prog_10_method_54_code (2 : Nat) (Option.some Jvm.ClassFile.FieldType.boolean)) ∈ qz_T := qz_mem 1008 (by decide +kernel) rfl
theorem wq_965 : (Jvm.Cond.constantLong "ExactCurvesModel" (268 : Nat) (80 : Int64)) ∈ qz_T := qz_mem 1009 (by decide +kernel) rfl
theorem wq_966 : (Jvm.Cond.methodLink "ExactCurvesLaw" (127 : Nat) ({ cls := "ExactCurvesModel", name := "pay", desc := "(IIJ)J" } : Jvm.MethodName)) ∈ qz_T := qz_mem 1010 (by decide +kernel) rfl
theorem wq_967 : (Jvm.Cond.instanceMethod ({ cls := "ExactCurvesModel", name := "pay", desc := "(IIJ)J" } : Jvm.MethodName)) ∈ qz_T := qz_mem 1011 (by decide +kernel) rfl
theorem wq_968 : (Jvm.Cond.selects "ExactCurvesModel" ({ cls := "ExactCurvesModel", name := "pay", desc := "(IIJ)J" } : Jvm.MethodName) ({ cls := "ExactCurvesModel", name := "pay", desc := "(IIJ)J" } : Jvm.MethodName)) ∈ qz_T := qz_mem 1012 (by decide +kernel) rfl
theorem wq_969 : (Jvm.Cond.code ({ cls := "ExactCurvesModel", name := "pay", desc := "(IIJ)J" } : Jvm.MethodName) prog_10_method_58_code (10 : Nat) (Option.some Jvm.ClassFile.FieldType.long)) ∈ qz_T := qz_mem 1013 (by decide +kernel) rfl
theorem wq_970 : (Jvm.Cond.methodLink "ExactCurvesLaw" (131 : Nat) ({ cls := "ExactCurvesModel", name := "close", desc := "(II)J" } : Jvm.MethodName)) ∈ qz_T := qz_mem 1014 (by decide +kernel) rfl
theorem wq_971 : (Jvm.Cond.instanceMethod ({ cls := "ExactCurvesModel", name := "close", desc := "(II)J" } : Jvm.MethodName)) ∈ qz_T := qz_mem 1015 (by decide +kernel) rfl
theorem wq_972 : (Jvm.Cond.selects "ExactCurvesModel" ({ cls := "ExactCurvesModel", name := "close", desc := "(II)J" } : Jvm.MethodName) ({ cls := "ExactCurvesModel", name := "close", desc := "(II)J" } : Jvm.MethodName)) ∈ qz_T := qz_mem 1016 (by decide +kernel) rfl
theorem wq_973 : (Jvm.Cond.code ({ cls := "ExactCurvesModel", name := "close", desc := "(II)J" } : Jvm.MethodName) prog_10_method_59_code (17 : Nat) (Option.some Jvm.ClassFile.FieldType.long)) ∈ qz_T := qz_mem 1017 (by decide +kernel) rfl
theorem wq_974 : (Jvm.Cond.constantLong "ExactCurvesModel" (285 : Nat) (105 : Int64)) ∈ qz_T := qz_mem 1018 (by decide +kernel) rfl
theorem wq_975 : (Jvm.Cond.methodLink "ExactCurvesModel" (287 : Nat) ({ cls := "ExactCurvesModel", name := "isAlike", desc := "()Z" } : Jvm.MethodName)) ∈ qz_T := qz_mem 1019 (by decide +kernel) rfl
theorem wq_977 : (Jvm.Cond.instanceMethod ({ cls := "ExactCurvesModel", name := "isAlike", desc := "()Z" } : Jvm.MethodName)) ∈ qz_T := qz_mem 1021 (by decide +kernel) rfl
theorem wq_978 : (Jvm.Cond.code ({ cls := "ExactCurvesModel", name := "isAlike", desc := "()Z" } : Jvm.MethodName) prog_10_method_60_code (3 : Nat) (Option.some Jvm.ClassFile.FieldType.boolean)) ∈ qz_T := qz_mem 1022 (by decide +kernel) rfl
theorem wq_979 : (Jvm.Cond.methodLink "ExactCurvesLaw" (135 : Nat) ({ cls := "ExactCurvesModel", name := "count", desc := "(I)I" } : Jvm.MethodName)) ∈ qz_T := qz_mem 1023 (by decide +kernel) rfl
theorem wq_980 : (Jvm.Cond.instanceMethod ({ cls := "ExactCurvesModel", name := "count", desc := "(I)I" } : Jvm.MethodName)) ∈ qz_T := qz_mem 1024 (by decide +kernel) rfl
theorem wq_981 : (Jvm.Cond.selects "ExactCurvesModel" ({ cls := "ExactCurvesModel", name := "count", desc := "(I)I" } : Jvm.MethodName) ({ cls := "ExactCurvesModel", name := "count", desc := "(I)I" } : Jvm.MethodName)) ∈ qz_T := qz_mem 1025 (by decide +kernel) rfl
theorem wq_982 : (Jvm.Cond.code ({ cls := "ExactCurvesModel", name := "count", desc := "(I)I" } : Jvm.MethodName) prog_10_method_61_code (4 : Nat) (Option.some Jvm.ClassFile.FieldType.int)) ∈ qz_T := qz_mem 1026 (by decide +kernel) rfl
theorem wq_983 : (Jvm.Cond.constantLong "ExactCurvesLaw" (13 : Nat) (4294967295 : Int64)) ∈ qz_T := qz_mem 1027 (by decide +kernel) rfl
theorem wp_0 : Cond.selects "ExactCurves" ⟨"ExactCurves", "poolAt", "(I)LExactCurves$Pool;"⟩ ⟨"ExactCurves", "poolAt", "(I)LExactCurves$Pool;"⟩ ∈ qz_T := qz_mem 0 (by decide +kernel) rfl
theorem wp_1 : Cond.selects "ExactCurves$Pool" ⟨"ExactCurves$Pool", "sharesBy", "(JJ)J"⟩ ⟨"ExactCurves$Pool", "sharesBy", "(JJ)J"⟩ ∈ qz_T := qz_mem 1 (by decide +kernel) rfl
theorem wp_2 : Cond.selects "ExactCurves" ⟨"ExactCurves", "bringIn", "(ILExactCurves$Pool;IJ)V"⟩ ⟨"ExactCurves", "bringIn", "(ILExactCurves$Pool;IJ)V"⟩ ∈ qz_T := qz_mem 2 (by decide +kernel) rfl
theorem wp_3 : Cond.selects "ExactCurves" ⟨"ExactCurves", "takeOut", "(ILExactCurves$Pool;IJ)V"⟩ ⟨"ExactCurves", "takeOut", "(ILExactCurves$Pool;IJ)V"⟩ ∈ qz_T := qz_mem 3 (by decide +kernel) rfl
theorem wp_4 : Cond.selects "ExactCurves$Batch" ⟨"ExactCurves$Batch", "isBefore", "(II)Z"⟩ ⟨"ExactCurves$Batch", "isBefore", "(II)Z"⟩ ∈ qz_T := qz_mem 4 (by decide +kernel) rfl
theorem wp_5 : Cond.selects "ExactCurves" ⟨"ExactCurves", "settleBuyer", "(IJ)V"⟩ ⟨"ExactCurves", "settleBuyer", "(IJ)V"⟩ ∈ qz_T := qz_mem 5 (by decide +kernel) rfl
theorem wp_6 : Cond.selects "ExactCurves" ⟨"ExactCurves", "settleSeller", "(IJ)V"⟩ ⟨"ExactCurves", "settleSeller", "(IJ)V"⟩ ∈ qz_T := qz_mem 6 (by decide +kernel) rfl
theorem wp_7 : Cond.selects "ExactCurves" ⟨"ExactCurves", "worthOf", "(I)J"⟩ ⟨"ExactCurves", "worthOf", "(I)J"⟩ ∈ qz_T := qz_mem 7 (by decide +kernel) rfl
theorem wp_8 : Cond.selects "ExactCurves" ⟨"ExactCurves", "debtToken", "(LExactCurves$Loan;)I"⟩ ⟨"ExactCurves", "debtToken", "(LExactCurves$Loan;)I"⟩ ∈ qz_T := qz_mem 8 (by decide +kernel) rfl
theorem wp_9 : Cond.selects "ExactCurves" ⟨"ExactCurves", "debtOf", "(LExactCurves$Loan;)J"⟩ ⟨"ExactCurves", "debtOf", "(LExactCurves$Loan;)J"⟩ ∈ qz_T := qz_mem 9 (by decide +kernel) rfl
theorem wp_10 : Cond.selects "ExactCurves" ⟨"ExactCurves", "freeLoan", "()I"⟩ ⟨"ExactCurves", "freeLoan", "()I"⟩ ∈ qz_T := qz_mem 10 (by decide +kernel) rfl
theorem wp_11 : Cond.selects "ExactCurves" ⟨"ExactCurves", "loanAt", "(I)LExactCurves$Loan;"⟩ ⟨"ExactCurves", "loanAt", "(I)LExactCurves$Loan;"⟩ ∈ qz_T := qz_mem 11 (by decide +kernel) rfl
theorem wp_12 : Cond.selects "ExactCurves" ⟨"ExactCurves", "coverValue", "(LExactCurves$Loan;)J"⟩ ⟨"ExactCurves", "coverValue", "(LExactCurves$Loan;)J"⟩ ∈ qz_T := qz_mem 12 (by decide +kernel) rfl
theorem wp_13 : Cond.selects "ExactCurves" ⟨"ExactCurves", "isUncovered", "(LExactCurves$Loan;)Z"⟩ ⟨"ExactCurves", "isUncovered", "(LExactCurves$Loan;)Z"⟩ ∈ qz_T := qz_mem 13 (by decide +kernel) rfl
theorem wp_14 : Cond.selects "ExactCurves" ⟨"ExactCurves", "coverToken", "(LExactCurves$Loan;)I"⟩ ⟨"ExactCurves", "coverToken", "(LExactCurves$Loan;)I"⟩ ∈ qz_T := qz_mem 14 (by decide +kernel) rfl
theorem wp_15 : Cond.selects "ExactCurves" ⟨"ExactCurves", "openLoans", "()I"⟩ ⟨"ExactCurves", "openLoans", "()I"⟩ ∈ qz_T := qz_mem 15 (by decide +kernel) rfl
theorem wp_16 : Cond.selects "ExactCurvesModel" ⟨"ExactCurvesModel", "allOf", "(I)J"⟩ ⟨"ExactCurvesModel", "allOf", "(I)J"⟩ ∈ qz_T := qz_mem 16 (by decide +kernel) rfl
theorem wp_17 : Cond.selects "ExactCurvesModel" ⟨"ExactCurvesModel", "has", "(II)J"⟩ ⟨"ExactCurvesModel", "has", "(II)J"⟩ ∈ qz_T := qz_mem 17 (by decide +kernel) rfl
theorem wp_18 : Cond.selects "ExactCurvesModel" ⟨"ExactCurvesModel", "heldBy", "(I)J"⟩ ⟨"ExactCurvesModel", "heldBy", "(I)J"⟩ ∈ qz_T := qz_mem 18 (by decide +kernel) rfl
theorem wp_19 : Cond.selects "ExactCurvesModel" ⟨"ExactCurvesModel", "coverToken", "(I)I"⟩ ⟨"ExactCurvesModel", "coverToken", "(I)I"⟩ ∈ qz_T := qz_mem 19 (by decide +kernel) rfl
theorem wp_20 : Cond.selects "ExactCurvesModel" ⟨"ExactCurvesModel", "give", "(IIJ)V"⟩ ⟨"ExactCurvesModel", "give", "(IIJ)V"⟩ ∈ qz_T := qz_mem 20 (by decide +kernel) rfl
theorem wp_21 : Cond.selects "ExactCurvesModel" ⟨"ExactCurvesModel", "isPool", "(I)Z"⟩ ⟨"ExactCurvesModel", "isPool", "(I)Z"⟩ ∈ qz_T := qz_mem 21 (by decide +kernel) rfl
theorem wp_22 : Cond.selects "ExactCurvesModel" ⟨"ExactCurvesModel", "root", "(JJ)J"⟩ ⟨"ExactCurvesModel", "root", "(JJ)J"⟩ ∈ qz_T := qz_mem 22 (by decide +kernel) rfl
theorem wp_23 : Cond.selects "ExactCurvesModel" ⟨"ExactCurvesModel", "begin", "(J)V"⟩ ⟨"ExactCurvesModel", "begin", "(J)V"⟩ ∈ qz_T := qz_mem 23 (by decide +kernel) rfl
theorem wp_24 : Cond.selects "ExactCurvesModel" ⟨"ExactCurvesModel", "times", "(J)V"⟩ ⟨"ExactCurvesModel", "times", "(J)V"⟩ ∈ qz_T := qz_mem 24 (by decide +kernel) rfl
theorem wp_25 : Cond.selects "ExactCurvesModel" ⟨"ExactCurvesModel", "keepBig", "()V"⟩ ⟨"ExactCurvesModel", "keepBig", "()V"⟩ ∈ qz_T := qz_mem 25 (by decide +kernel) rfl
theorem wp_26 : Cond.selects "ExactCurvesModel" ⟨"ExactCurvesModel", "keptIsLess", "()Z"⟩ ⟨"ExactCurvesModel", "keptIsLess", "()Z"⟩ ∈ qz_T := qz_mem 26 (by decide +kernel) rfl
theorem wp_27 : Cond.selects "ExactCurvesModel" ⟨"ExactCurvesModel", "part", "(JJJ)J"⟩ ⟨"ExactCurvesModel", "part", "(JJJ)J"⟩ ∈ qz_T := qz_mem 27 (by decide +kernel) rfl
theorem wp_28 : Cond.selects "ExactCurvesModel" ⟨"ExactCurvesModel", "over", "(J)J"⟩ ⟨"ExactCurvesModel", "over", "(J)J"⟩ ∈ qz_T := qz_mem 28 (by decide +kernel) rfl
theorem wp_29 : Cond.selects "ExactCurvesModel" ⟨"ExactCurvesModel", "partUp", "(JJJ)J"⟩ ⟨"ExactCurvesModel", "partUp", "(JJJ)J"⟩ ∈ qz_T := qz_mem 29 (by decide +kernel) rfl
theorem wp_30 : Cond.selects "ExactCurvesModel" ⟨"ExactCurvesModel", "outOf", "(IIJ)J"⟩ ⟨"ExactCurvesModel", "outOf", "(IIJ)J"⟩ ∈ qz_T := qz_mem 30 (by decide +kernel) rfl
theorem wp_31 : Cond.selects "ExactCurvesModel" ⟨"ExactCurvesModel", "tickOnce", "()V"⟩ ⟨"ExactCurvesModel", "tickOnce", "()V"⟩ ∈ qz_T := qz_mem 31 (by decide +kernel) rfl
theorem wp_32 : Cond.selects "ExactCurvesModel" ⟨"ExactCurvesModel", "bestPrice", "()J"⟩ ⟨"ExactCurvesModel", "bestPrice", "()J"⟩ ∈ qz_T := qz_mem 32 (by decide +kernel) rfl
theorem wp_33 : Cond.selects "ExactCurvesModel" ⟨"ExactCurvesModel", "allAt", "(ZJ)J"⟩ ⟨"ExactCurvesModel", "allAt", "(ZJ)J"⟩ ∈ qz_T := qz_mem 33 (by decide +kernel) rfl
theorem wp_34 : Cond.selects "ExactCurvesModel" ⟨"ExactCurvesModel", "deal", "(ZJJ)V"⟩ ⟨"ExactCurvesModel", "deal", "(ZJJ)V"⟩ ∈ qz_T := qz_mem 34 (by decide +kernel) rfl
theorem wp_35 : Cond.selects "ExactCurvesModel" ⟨"ExactCurvesModel", "worthOf", "(I)J"⟩ ⟨"ExactCurvesModel", "worthOf", "(I)J"⟩ ∈ qz_T := qz_mem 35 (by decide +kernel) rfl
theorem wp_36 : Cond.selects "ExactCurvesModel" ⟨"ExactCurvesModel", "debtToken", "(I)I"⟩ ⟨"ExactCurvesModel", "debtToken", "(I)I"⟩ ∈ qz_T := qz_mem 36 (by decide +kernel) rfl
theorem wp_37 : Cond.selects "ExactCurvesModel" ⟨"ExactCurvesModel", "debtOf", "(I)J"⟩ ⟨"ExactCurvesModel", "debtOf", "(I)J"⟩ ∈ qz_T := qz_mem 37 (by decide +kernel) rfl
theorem wp_38 : Cond.selects "ExactCurvesModel" ⟨"ExactCurvesModel", "valueOf", "(IIJ)J"⟩ ⟨"ExactCurvesModel", "valueOf", "(IIJ)J"⟩ ∈ qz_T := qz_mem 38 (by decide +kernel) rfl
theorem wp_39 : Cond.selects "ExactCurvesModel" ⟨"ExactCurvesModel", "isAbove", "(JJJJ)Z"⟩ ⟨"ExactCurvesModel", "isAbove", "(JJJJ)Z"⟩ ∈ qz_T := qz_mem 39 (by decide +kernel) rfl
theorem wp_40 : Cond.selects "ExactCurvesModel" ⟨"ExactCurvesModel", "isOpen", "(I)Z"⟩ ⟨"ExactCurvesModel", "isOpen", "(I)Z"⟩ ∈ qz_T := qz_mem 40 (by decide +kernel) rfl
theorem wp_41 : Cond.selects "ExactCurvesModel" ⟨"ExactCurvesModel", "coverValue", "(I)J"⟩ ⟨"ExactCurvesModel", "coverValue", "(I)J"⟩ ∈ qz_T := qz_mem 41 (by decide +kernel) rfl
theorem wp_42 : Cond.selects "ExactCurvesModel" ⟨"ExactCurvesModel", "isUncovered", "(I)Z"⟩ ⟨"ExactCurvesModel", "isUncovered", "(I)Z"⟩ ∈ qz_T := qz_mem 42 (by decide +kernel) rfl
theorem wp_43 : Cond.selects "ExactCurvesModel" ⟨"ExactCurvesModel", "isAlike", "()Z"⟩ ⟨"ExactCurvesModel", "isAlike", "()Z"⟩ ∈ qz_T := qz_mem 43 (by decide +kernel) rfl
theorem iq_0 : ∀ w ∈ u_ws rq_0 tq_0 8, w ∈ qz_T := by
  intro w h
  obtain ⟨k, hk, rfl⟩ := List.mem_map.mp h
  have hk := List.mem_range.mp hk
  match k, hk with
  | 0, _ => exact wq_224
  | 1, _ => exact wq_226
  | 2, _ => exact wq_228
  | 3, _ => exact wq_230
  | 4, _ => exact wq_232
  | 5, _ => exact wq_234
  | 6, _ => exact wq_236
  | 7, _ => exact wq_238
  | k + 8, hk => exact absurd hk (by omega)
theorem iq_1 : ∀ w ∈ u_ws rq_1 tq_1 3, w ∈ qz_T := by
  intro w h
  obtain ⟨k, hk, rfl⟩ := List.mem_map.mp h
  have hk := List.mem_range.mp hk
  match k, hk with
  | 0, _ => exact wq_31
  | 1, _ => exact wq_33
  | 2, _ => exact wq_35
  | k + 3, hk => exact absurd hk (by omega)
theorem iq_2 : ∀ w ∈ u_ws rq_2 tq_2 10, w ∈ qz_T := by
  intro w h
  obtain ⟨k, hk, rfl⟩ := List.mem_map.mp h
  have hk := List.mem_range.mp hk
  match k, hk with
  | 0, _ => exact wq_121
  | 1, _ => exact wq_123
  | 2, _ => exact wq_125
  | 3, _ => exact wq_127
  | 4, _ => exact wq_129
  | 5, _ => exact wq_131
  | 6, _ => exact wq_133
  | 7, _ => exact wq_135
  | 8, _ => exact wq_137
  | 9, _ => exact wq_139
  | k + 10, hk => exact absurd hk (by omega)
theorem iq_3 : ∀ w ∈ u_ws rq_3 tq_3 4, w ∈ qz_T := by
  intro w h
  obtain ⟨k, hk, rfl⟩ := List.mem_map.mp h
  have hk := List.mem_range.mp hk
  match k, hk with
  | 0, _ => exact wq_151
  | 1, _ => exact wq_153
  | 2, _ => exact wq_155
  | 3, _ => exact wq_157
  | k + 4, hk => exact absurd hk (by omega)
theorem iq_4 : ∀ w ∈ u_ws rq_4 tq_4 10, w ∈ qz_T := by
  intro w h
  obtain ⟨k, hk, rfl⟩ := List.mem_map.mp h
  have hk := List.mem_range.mp hk
  match k, hk with
  | 0, _ => exact wq_69
  | 1, _ => exact wq_71
  | 2, _ => exact wq_73
  | 3, _ => exact wq_75
  | 4, _ => exact wq_77
  | 5, _ => exact wq_79
  | 6, _ => exact wq_81
  | 7, _ => exact wq_83
  | 8, _ => exact wq_85
  | 9, _ => exact wq_87
  | k + 10, hk => exact absurd hk (by omega)
theorem iq_5 : ∀ w ∈ u_ws rq_5 tq_5 5, w ∈ qz_T := by
  intro w h
  obtain ⟨k, hk, rfl⟩ := List.mem_map.mp h
  have hk := List.mem_range.mp hk
  match k, hk with
  | 0, _ => exact wq_175
  | 1, _ => exact wq_177
  | 2, _ => exact wq_179
  | 3, _ => exact wq_181
  | 4, _ => exact wq_183
  | k + 5, hk => exact absurd hk (by omega)
theorem iq_6 : ∀ w ∈ u_ws rq_6 tq_6 6, w ∈ qz_T := by
  intro w h
  obtain ⟨k, hk, rfl⟩ := List.mem_map.mp h
  have hk := List.mem_range.mp hk
  match k, hk with
  | 0, _ => exact wq_203
  | 1, _ => exact wq_205
  | 2, _ => exact wq_207
  | 3, _ => exact wq_209
  | 4, _ => exact wq_211
  | 5, _ => exact wq_213
  | k + 6, hk => exact absurd hk (by omega)
theorem iq_7 : ∀ w ∈ u_ws rq_7 tq_7 42, w ∈ qz_T := by
  intro w h
  obtain ⟨k, hk, rfl⟩ := List.mem_map.mp h
  have hk := List.mem_range.mp hk
  match k, hk with
  | 0, _ => exact wq_646
  | 1, _ => exact wq_648
  | 2, _ => exact wq_650
  | 3, _ => exact wq_652
  | 4, _ => exact wq_654
  | 5, _ => exact wq_656
  | 6, _ => exact wq_658
  | 7, _ => exact wq_660
  | 8, _ => exact wq_662
  | 9, _ => exact wq_664
  | 10, _ => exact wq_666
  | 11, _ => exact wq_668
  | 12, _ => exact wq_670
  | 13, _ => exact wq_672
  | 14, _ => exact wq_674
  | 15, _ => exact wq_676
  | 16, _ => exact wq_678
  | 17, _ => exact wq_680
  | 18, _ => exact wq_682
  | 19, _ => exact wq_684
  | 20, _ => exact wq_686
  | 21, _ => exact wq_688
  | 22, _ => exact wq_690
  | 23, _ => exact wq_692
  | 24, _ => exact wq_694
  | 25, _ => exact wq_696
  | 26, _ => exact wq_698
  | 27, _ => exact wq_700
  | 28, _ => exact wq_702
  | 29, _ => exact wq_704
  | 30, _ => exact wq_706
  | 31, _ => exact wq_708
  | 32, _ => exact wq_710
  | 33, _ => exact wq_712
  | 34, _ => exact wq_714
  | 35, _ => exact wq_716
  | 36, _ => exact wq_718
  | 37, _ => exact wq_720
  | 38, _ => exact wq_722
  | 39, _ => exact wq_724
  | 40, _ => exact wq_726
  | 41, _ => exact wq_728
  | k + 42, hk => exact absurd hk (by omega)
def yE_isPlayer : MethodName := ⟨"ExactCurves", "isPlayer", "(I)Z"⟩
def yE_isToken : MethodName := ⟨"ExactCurves", "isToken", "(I)Z"⟩
def yU_give : MethodName := ⟨"ExactCurves$Purses", "give", "(IIJ)V"⟩
def yU_held : MethodName := ⟨"ExactCurves$Purses", "held", "(II)J"⟩
def yE_mint : MethodName := ⟨"ExactCurves", "mint", "(IIJ)J"⟩
def yE_balance : MethodName := ⟨"ExactCurves", "balance", "(II)J"⟩
def yE_total : MethodName := ⟨"ExactCurves", "total", "(I)J"⟩
def yE_house : MethodName := ⟨"ExactCurves", "house", "(I)J"⟩
def yE_pool : MethodName := ⟨"ExactCurves", "pool", "(IIII)I"⟩
def yE_poolAt : MethodName := ⟨"ExactCurves", "poolAt", "(I)LExactCurves$Pool;"⟩
def yP_told : MethodName := ⟨"ExactCurves$Pool", "told", "(I)J"⟩
def yE_of : MethodName := ⟨"ExactCurves", "of", "(II)J"⟩
def yA_highOf : MethodName := ⟨"ExactCurves$Exact", "highOf", "(JJ)J"⟩
def yJl_compare : MethodName := ⟨"java/lang/Long", "compare", "(JJ)I"⟩
def yA_compareProducts : MethodName := ⟨"ExactCurves$Exact", "compareProducts", "(JJJJ)I"⟩
def yA_rootOfProduct : MethodName := ⟨"ExactCurves$Exact", "rootOfProduct", "(JJ)J"⟩
def yA_over : MethodName := ⟨"ExactCurves$Exact", "over", "(JJJ)J"⟩
def yA_timesOver : MethodName := ⟨"ExactCurves$Exact", "timesOver", "(JJJ)J"⟩
def yP_sharesBy : MethodName := ⟨"ExactCurves$Pool", "sharesBy", "(JJ)J"⟩
def yP_sharesFor : MethodName := ⟨"ExactCurves$Pool", "sharesFor", "(JJ)J"⟩
def yP_reserveAt : MethodName := ⟨"ExactCurves$Pool", "reserveAt", "(I)J"⟩
def yA_timesOverUp : MethodName := ⟨"ExactCurves$Exact", "timesOverUp", "(JJJ)J"⟩
def yP_costOf : MethodName := ⟨"ExactCurves$Pool", "costOf", "(JI)J"⟩
def yP_tokenAt : MethodName := ⟨"ExactCurves$Pool", "tokenAt", "(I)I"⟩
def yU_take : MethodName := ⟨"ExactCurves$Purses", "take", "(IIJ)V"⟩
def yP_addReserve : MethodName := ⟨"ExactCurves$Pool", "addReserve", "(IJ)V"⟩
def yE_bringIn : MethodName := ⟨"ExactCurves", "bringIn", "(ILExactCurves$Pool;IJ)V"⟩
def yP_addShares : MethodName := ⟨"ExactCurves$Pool", "addShares", "(IJ)V"⟩
def yE_join : MethodName := ⟨"ExactCurves", "join", "(IIJJ)J"⟩
def yP_payOf : MethodName := ⟨"ExactCurves$Pool", "payOf", "(JI)J"⟩
def yE_takeOut : MethodName := ⟨"ExactCurves", "takeOut", "(ILExactCurves$Pool;IJ)V"⟩
def yE_leave : MethodName := ⟨"ExactCurves", "leave", "(IIJ)J"⟩
def yE_isSide : MethodName := ⟨"ExactCurves", "isSide", "(I)Z"⟩
def yP_outputOf : MethodName := ⟨"ExactCurves$Pool", "outputOf", "(IJ)J"⟩
def yE_swap : MethodName := ⟨"ExactCurves", "swap", "(IIIJ)J"⟩
def yE_quote : MethodName := ⟨"ExactCurves", "quote", "(IIJ)J"⟩
def yP_mayBecome : MethodName := ⟨"ExactCurves$Pool", "mayBecome", "(JJJJ)Z"⟩
def yE_flash : MethodName := ⟨"ExactCurves", "flash", "(IIJJJJ)I"⟩
def yP_grow : MethodName := ⟨"ExactCurves$Pool", "grow", "(I)V"⟩
def yV_grow : MethodName := ⟨"ExactCurves$Vault", "grow", "(I)V"⟩
def yE_tick : MethodName := ⟨"ExactCurves", "tick", "(I)I"⟩
def yE_mark : MethodName := ⟨"ExactCurves", "mark", "(II)I"⟩
def yE_mean : MethodName := ⟨"ExactCurves", "mean", "(I)J"⟩
def yE_batch : MethodName := ⟨"ExactCurves", "batch", "(II)I"⟩
def yB_priceUp : MethodName := ⟨"ExactCurves$Batch", "priceUp", "(JJ)J"⟩
def yB_put : MethodName := ⟨"ExactCurves$Batch", "put", "(IZJJ)I"⟩
def yE_order : MethodName := ⟨"ExactCurves", "order", "(IIJJ)I"⟩
def yB_boughtAt : MethodName := ⟨"ExactCurves$Batch", "boughtAt", "(J)J"⟩
def yB_soldAt : MethodName := ⟨"ExactCurves$Batch", "soldAt", "(J)J"⟩
def yB_bestPrice : MethodName := ⟨"ExactCurves$Batch", "bestPrice", "()J"⟩
def yB_isBefore : MethodName := ⟨"ExactCurves$Batch", "isBefore", "(II)Z"⟩
def yB_beforeOrder : MethodName := ⟨"ExactCurves$Batch", "beforeOrder", "(I)J"⟩
def yB_dealAt : MethodName := ⟨"ExactCurves$Batch", "dealAt", "(J)V"⟩
def yE_settleBuyer : MethodName := ⟨"ExactCurves", "settleBuyer", "(IJ)V"⟩
def yE_settleSeller : MethodName := ⟨"ExactCurves", "settleSeller", "(IJ)V"⟩
def yE_clear : MethodName := ⟨"ExactCurves", "clear", "()J"⟩
def yE_dealt : MethodName := ⟨"ExactCurves", "dealt", "(I)J"⟩
def yE_rate : MethodName := ⟨"ExactCurves", "rate", "(IJ)J"⟩
def yE_debtToken : MethodName := ⟨"ExactCurves", "debtToken", "(LExactCurves$Loan;)I"⟩
def yV_debtOf : MethodName := ⟨"ExactCurves$Vault", "debtOf", "(J)J"⟩
def yE_debtOf : MethodName := ⟨"ExactCurves", "debtOf", "(LExactCurves$Loan;)J"⟩
def yE_worthOf : MethodName := ⟨"ExactCurves", "worthOf", "(I)J"⟩
def yV_addParts : MethodName := ⟨"ExactCurves$Vault", "addParts", "(IJ)V"⟩
def yE_lend : MethodName := ⟨"ExactCurves", "lend", "(IIJ)J"⟩
def yE_redeem : MethodName := ⟨"ExactCurves", "redeem", "(IIJ)J"⟩
def yV_told : MethodName := ⟨"ExactCurves$Vault", "told", "(I)J"⟩
def yE_vault : MethodName := ⟨"ExactCurves", "vault", "(II)J"⟩
def yE_freeLoan : MethodName := ⟨"ExactCurves", "freeLoan", "()I"⟩
def yP_valueOf : MethodName := ⟨"ExactCurves$Pool", "valueOf", "(IJ)J"⟩
def yV_unitsOf : MethodName := ⟨"ExactCurves$Vault", "unitsOf", "(J)J"⟩
def yL_begin : MethodName := ⟨"ExactCurves$Loan", "begin", "(IIIJJ)V"⟩
def yE_loan : MethodName := ⟨"ExactCurves", "loan", "(IIIJJ)I"⟩
def yE_loanAt : MethodName := ⟨"ExactCurves", "loanAt", "(I)LExactCurves$Loan;"⟩
def yE_coverValue : MethodName := ⟨"ExactCurves", "coverValue", "(LExactCurves$Loan;)J"⟩
def yE_isUncovered : MethodName := ⟨"ExactCurves", "isUncovered", "(LExactCurves$Loan;)Z"⟩
def yE_ofLoan : MethodName := ⟨"ExactCurves", "ofLoan", "(II)J"⟩
def yE_coverToken : MethodName := ⟨"ExactCurves", "coverToken", "(LExactCurves$Loan;)I"⟩
def yE_pay : MethodName := ⟨"ExactCurves", "pay", "(IIJ)J"⟩
def yP_leastOfValue : MethodName := ⟨"ExactCurves$Pool", "leastOfValue", "(IJ)J"⟩
def yE_close : MethodName := ⟨"ExactCurves", "close", "(II)J"⟩
def yE_openLoans : MethodName := ⟨"ExactCurves", "openLoans", "()I"⟩
def yE_count : MethodName := ⟨"ExactCurves", "count", "(I)I"⟩
def yM_begin : MethodName := ⟨"ExactCurvesModel", "begin", "(J)V"⟩
def yM_times : MethodName := ⟨"ExactCurvesModel", "times", "(J)V"⟩
def yM_over : MethodName := ⟨"ExactCurvesModel", "over", "(J)J"⟩
def yM_part : MethodName := ⟨"ExactCurvesModel", "part", "(JJJ)J"⟩
def yM_partUp : MethodName := ⟨"ExactCurvesModel", "partUp", "(JJJ)J"⟩
def yM_keepBig : MethodName := ⟨"ExactCurvesModel", "keepBig", "()V"⟩
def yM_keptIsLess : MethodName := ⟨"ExactCurvesModel", "keptIsLess", "()Z"⟩
def yM_least : MethodName := ⟨"ExactCurvesModel", "least", "(JJ)J"⟩
def yM_isPlayer : MethodName := ⟨"ExactCurvesModel", "isPlayer", "(I)Z"⟩
def yM_isToken : MethodName := ⟨"ExactCurvesModel", "isToken", "(I)Z"⟩
def yM_isPool : MethodName := ⟨"ExactCurvesModel", "isPool", "(I)Z"⟩
def yM_isSide : MethodName := ⟨"ExactCurvesModel", "isSide", "(I)Z"⟩
def yM_has : MethodName := ⟨"ExactCurvesModel", "has", "(II)J"⟩
def yM_give : MethodName := ⟨"ExactCurvesModel", "give", "(IIJ)V"⟩
def yM_up : MethodName := ⟨"ExactCurvesModel", "up", "(JJ)J"⟩
def yM_heldBy : MethodName := ⟨"ExactCurvesModel", "heldBy", "(I)J"⟩
def yM_coverToken : MethodName := ⟨"ExactCurvesModel", "coverToken", "(I)I"⟩
def yM_allOf : MethodName := ⟨"ExactCurvesModel", "allOf", "(I)J"⟩
def yM_mint : MethodName := ⟨"ExactCurvesModel", "mint", "(IIJ)J"⟩
def yM_balance : MethodName := ⟨"ExactCurvesModel", "balance", "(II)J"⟩
def yM_total : MethodName := ⟨"ExactCurvesModel", "total", "(I)J"⟩
def yM_house : MethodName := ⟨"ExactCurvesModel", "house", "(I)J"⟩
def yM_pool : MethodName := ⟨"ExactCurvesModel", "pool", "(IIII)I"⟩
def yM_of : MethodName := ⟨"ExactCurvesModel", "of", "(II)J"⟩
def yM_root : MethodName := ⟨"ExactCurvesModel", "root", "(JJ)J"⟩
def yM_join : MethodName := ⟨"ExactCurvesModel", "join", "(IIJJ)J"⟩
def yM_leave : MethodName := ⟨"ExactCurvesModel", "leave", "(IIJ)J"⟩
def yM_outOf : MethodName := ⟨"ExactCurvesModel", "outOf", "(IIJ)J"⟩
def yM_swap : MethodName := ⟨"ExactCurvesModel", "swap", "(IIIJ)J"⟩
def yM_quote : MethodName := ⟨"ExactCurvesModel", "quote", "(IIJ)J"⟩
def yM_flash : MethodName := ⟨"ExactCurvesModel", "flash", "(IIJJJJ)I"⟩
def yM_tickOnce : MethodName := ⟨"ExactCurvesModel", "tickOnce", "()V"⟩
def yM_tick : MethodName := ⟨"ExactCurvesModel", "tick", "(I)I"⟩
def yM_mark : MethodName := ⟨"ExactCurvesModel", "mark", "(II)I"⟩
def yM_mean : MethodName := ⟨"ExactCurvesModel", "mean", "(I)J"⟩
def yM_batch : MethodName := ⟨"ExactCurvesModel", "batch", "(II)I"⟩
def yM_order : MethodName := ⟨"ExactCurvesModel", "order", "(IIJJ)I"⟩
def yM_allAt : MethodName := ⟨"ExactCurvesModel", "allAt", "(ZJ)J"⟩
def yM_bestPrice : MethodName := ⟨"ExactCurvesModel", "bestPrice", "()J"⟩
def yM_deal : MethodName := ⟨"ExactCurvesModel", "deal", "(ZJJ)V"⟩
def yM_clear : MethodName := ⟨"ExactCurvesModel", "clear", "()J"⟩
def yM_dealt : MethodName := ⟨"ExactCurvesModel", "dealt", "(I)J"⟩
def yM_rate : MethodName := ⟨"ExactCurvesModel", "rate", "(IJ)J"⟩
def yM_debtToken : MethodName := ⟨"ExactCurvesModel", "debtToken", "(I)I"⟩
def yM_debtOf : MethodName := ⟨"ExactCurvesModel", "debtOf", "(I)J"⟩
def yM_worthOf : MethodName := ⟨"ExactCurvesModel", "worthOf", "(I)J"⟩
def yM_lend : MethodName := ⟨"ExactCurvesModel", "lend", "(IIJ)J"⟩
def yM_redeem : MethodName := ⟨"ExactCurvesModel", "redeem", "(IIJ)J"⟩
def yM_vault : MethodName := ⟨"ExactCurvesModel", "vault", "(II)J"⟩
def yM_valueOf : MethodName := ⟨"ExactCurvesModel", "valueOf", "(IIJ)J"⟩
def yM_isAbove : MethodName := ⟨"ExactCurvesModel", "isAbove", "(JJJJ)Z"⟩
def yM_coverValue : MethodName := ⟨"ExactCurvesModel", "coverValue", "(I)J"⟩
def yM_isUncovered : MethodName := ⟨"ExactCurvesModel", "isUncovered", "(I)Z"⟩
def yM_loan : MethodName := ⟨"ExactCurvesModel", "loan", "(IIIJJ)I"⟩
def yM_isOpen : MethodName := ⟨"ExactCurvesModel", "isOpen", "(I)Z"⟩
def yM_ofLoan : MethodName := ⟨"ExactCurvesModel", "ofLoan", "(II)J"⟩
def yM_pay : MethodName := ⟨"ExactCurvesModel", "pay", "(IIJ)J"⟩
def yM_isAlike : MethodName := ⟨"ExactCurvesModel", "isAlike", "()Z"⟩
def yM_close : MethodName := ⟨"ExactCurvesModel", "close", "(II)J"⟩
def yM_count : MethodName := ⟨"ExactCurvesModel", "count", "(I)I"⟩
def yU_init : MethodName := ⟨"ExactCurves$Purses", "<init>", "()V"⟩
def yP_init : MethodName := ⟨"ExactCurves$Pool", "<init>", "()V"⟩
def yK_init : MethodName := ⟨"ExactCurves$Mark", "<init>", "()V"⟩
def yB_init : MethodName := ⟨"ExactCurves$Batch", "<init>", "()V"⟩
def yV_init : MethodName := ⟨"ExactCurves$Vault", "<init>", "()V"⟩
def yL_init : MethodName := ⟨"ExactCurves$Loan", "<init>", "()V"⟩
def yE_init : MethodName := ⟨"ExactCurves", "<init>", "()V"⟩
def yM_init : MethodName := ⟨"ExactCurvesModel", "<init>", "()V"⟩
theorem kq_U_9 : qz_Fd "ExactCurves$Purses" 9 1 0 1 (.array .long, 12) true := ⟨1, sq_1, rq_1, tq_1, 3, fq_1, rfl, rfl, iq_1, by decide, rfl, wq_26, yq_1, nq_1, rfl, yq_1 0 (by decide), rfl⟩
theorem kq_E_10 : qz_Fd "ExactCurves" 10 0 0 1 (.object "ExactCurves$Purses", 1) true := ⟨0, sq_0, rq_0, tq_0, 8, fq_0, rfl, rfl, iq_0, by decide, rfl, wq_216, yq_0, nq_0, rfl, yq_0 0 (by decide), rfl⟩
theorem kq_E_62 : qz_Fd "ExactCurves" 62 1 1 1 (.array .long, 13) true := ⟨1, sq_1, rq_1, tq_1, 3, fq_1, rfl, rfl, iq_1, by decide, rfl, wq_28, yq_1, nq_1, rfl, yq_1 1 (by decide), rfl⟩
theorem kq_E_76 : qz_Fd "ExactCurves" 76 1 2 1 (.array .long, 14) true := ⟨1, sq_1, rq_1, tq_1, 3, fq_1, rfl, rfl, iq_1, by decide, rfl, wq_30, yq_1, nq_1, rfl, yq_1 2 (by decide), rfl⟩
theorem kq_E_79 : qz_Fd "ExactCurves" 79 0 6 1 (.int, 0) false := ⟨0, sq_0, rq_0, tq_0, 8, fq_0, rfl, rfl, iq_0, by decide, rfl, wq_222, yq_0, nq_0, rfl, yq_0 6 (by decide), rfl⟩
theorem kq_E_18 : qz_Fd "ExactCurves" 18 0 1 1 (.array (.object "ExactCurves$Pool"), 8) true := ⟨0, sq_0, rq_0, tq_0, 8, fq_0, rfl, rfl, iq_0, by decide, rfl, wq_217, yq_0, nq_0, rfl, yq_0 1 (by decide), rfl⟩
theorem kq_E_83 : qz_Fd "ExactCurves" 83 2 1 6 (.int, 0) false := ⟨2, sq_2, rq_2, tq_2, 10, fq_2, rfl, rfl, iq_2, by decide, rfl, wq_104, yq_2, nq_2, rfl, yq_2 1 (by decide), rfl⟩
theorem kq_E_86 : qz_Fd "ExactCurves" 86 2 2 6 (.int, 0) false := ⟨2, sq_2, rq_2, tq_2, 10, fq_2, rfl, rfl, iq_2, by decide, rfl, wq_106, yq_2, nq_2, rfl, yq_2 2 (by decide), rfl⟩
theorem kq_E_89 : qz_Fd "ExactCurves" 89 2 3 6 (.int, 0) false := ⟨2, sq_2, rq_2, tq_2, 10, fq_2, rfl, rfl, iq_2, by decide, rfl, wq_108, yq_2, nq_2, rfl, yq_2 3 (by decide), rfl⟩
theorem kq_E_92 : qz_Fd "ExactCurves" 92 2 4 6 (.int, 0) false := ⟨2, sq_2, rq_2, tq_2, 10, fq_2, rfl, rfl, iq_2, by decide, rfl, wq_110, yq_2, nq_2, rfl, yq_2 4 (by decide), rfl⟩
theorem kq_P_22 : qz_Fd "ExactCurves$Pool" 22 2 5 6 (.long, 0) false := ⟨2, sq_2, rq_2, tq_2, 10, fq_2, rfl, rfl, iq_2, by decide, rfl, wq_111, yq_2, nq_2, rfl, yq_2 5 (by decide), rfl⟩
theorem kq_P_26 : qz_Fd "ExactCurves$Pool" 26 2 6 6 (.long, 0) false := ⟨2, sq_2, rq_2, tq_2, 10, fq_2, rfl, rfl, iq_2, by decide, rfl, wq_113, yq_2, nq_2, rfl, yq_2 6 (by decide), rfl⟩
theorem kq_P_29 : qz_Fd "ExactCurves$Pool" 29 2 7 6 (.long, 0) false := ⟨2, sq_2, rq_2, tq_2, 10, fq_2, rfl, rfl, iq_2, by decide, rfl, wq_115, yq_2, nq_2, rfl, yq_2 7 (by decide), rfl⟩
theorem kq_P_32 : qz_Fd "ExactCurves$Pool" 32 2 8 6 (.long, 0) false := ⟨2, sq_2, rq_2, tq_2, 10, fq_2, rfl, rfl, iq_2, by decide, rfl, wq_117, yq_2, nq_2, rfl, yq_2 8 (by decide), rfl⟩
theorem kq_P_35 : qz_Fd "ExactCurves$Pool" 35 2 9 6 (.long, 0) false := ⟨2, sq_2, rq_2, tq_2, 10, fq_2, rfl, rfl, iq_2, by decide, rfl, wq_119, yq_2, nq_2, rfl, yq_2 9 (by decide), rfl⟩
theorem kq_P_38 : qz_Fd "ExactCurves$Pool" 38 2 3 6 (.int, 0) false := ⟨2, sq_2, rq_2, tq_2, 10, fq_2, rfl, rfl, iq_2, by decide, rfl, wq_107, yq_2, nq_2, rfl, yq_2 3 (by decide), rfl⟩
theorem kq_P_41 : qz_Fd "ExactCurves$Pool" 41 2 4 6 (.int, 0) false := ⟨2, sq_2, rq_2, tq_2, 10, fq_2, rfl, rfl, iq_2, by decide, rfl, wq_109, yq_2, nq_2, rfl, yq_2 4 (by decide), rfl⟩
theorem kq_P_15 : qz_Fd "ExactCurves$Pool" 15 2 1 6 (.int, 0) false := ⟨2, sq_2, rq_2, tq_2, 10, fq_2, rfl, rfl, iq_2, by decide, rfl, wq_103, yq_2, nq_2, rfl, yq_2 1 (by decide), rfl⟩
theorem kq_P_19 : qz_Fd "ExactCurves$Pool" 19 2 2 6 (.int, 0) false := ⟨2, sq_2, rq_2, tq_2, 10, fq_2, rfl, rfl, iq_2, by decide, rfl, wq_105, yq_2, nq_2, rfl, yq_2 2 (by decide), rfl⟩
theorem kq_P_9 : qz_Fd "ExactCurves$Pool" 9 2 0 6 (.array .long, 15) true := ⟨2, sq_2, rq_2, tq_2, 10, fq_2, rfl, rfl, iq_2, by decide, rfl, wq_101, yq_2, nq_2, rfl, yq_2 0 (by decide), rfl⟩
theorem kq_E_107 : qz_Fd "ExactCurves" 107 2 7 6 (.long, 0) false := ⟨2, sq_2, rq_2, tq_2, 10, fq_2, rfl, rfl, iq_2, by decide, rfl, wq_116, yq_2, nq_2, rfl, yq_2 7 (by decide), rfl⟩
theorem kq_E_123 : qz_Fd "ExactCurves" 123 2 0 6 (.array .long, 15) true := ⟨2, sq_2, rq_2, tq_2, 10, fq_2, rfl, rfl, iq_2, by decide, rfl, wq_102, yq_2, nq_2, rfl, yq_2 0 (by decide), rfl⟩
theorem kq_E_143 : qz_Fd "ExactCurves" 143 2 5 6 (.long, 0) false := ⟨2, sq_2, rq_2, tq_2, 10, fq_2, rfl, rfl, iq_2, by decide, rfl, wq_112, yq_2, nq_2, rfl, yq_2 5 (by decide), rfl⟩
theorem kq_E_146 : qz_Fd "ExactCurves" 146 2 6 6 (.long, 0) false := ⟨2, sq_2, rq_2, tq_2, 10, fq_2, rfl, rfl, iq_2, by decide, rfl, wq_114, yq_2, nq_2, rfl, yq_2 6 (by decide), rfl⟩
theorem kq_V_27 : qz_Fd "ExactCurves$Vault" 27 5 3 4 (.long, 0) false := ⟨5, sq_5, rq_5, tq_5, 5, fq_5, rfl, rfl, iq_5, by decide, rfl, wq_172, yq_5, nq_5, rfl, yq_5 3 (by decide), rfl⟩
theorem kq_V_17 : qz_Fd "ExactCurves$Vault" 17 5 4 4 (.long, 0) false := ⟨5, sq_5, rq_5, tq_5, 5, fq_5, rfl, rfl, iq_5, by decide, rfl, wq_174, yq_5, nq_5, rfl, yq_5 4 (by decide), rfl⟩
theorem kq_E_158 : qz_Fd "ExactCurves" 158 0 7 1 (.int, 0) false := ⟨0, sq_0, rq_0, tq_0, 8, fq_0, rfl, rfl, iq_0, by decide, rfl, wq_223, yq_0, nq_0, rfl, yq_0 7 (by decide), rfl⟩
theorem kq_E_37 : qz_Fd "ExactCurves" 37 0 4 1 (.array (.object "ExactCurves$Vault"), 10) true := ⟨0, sq_0, rq_0, tq_0, 8, fq_0, rfl, rfl, iq_0, by decide, rfl, wq_220, yq_0, nq_0, rfl, yq_0 4 (by decide), rfl⟩
theorem kq_E_24 : qz_Fd "ExactCurves" 24 0 2 1 (.array (.object "ExactCurves$Mark"), 9) true := ⟨0, sq_0, rq_0, tq_0, 8, fq_0, rfl, rfl, iq_0, by decide, rfl, wq_218, yq_0, nq_0, rfl, yq_0 2 (by decide), rfl⟩
theorem kq_E_161 : qz_Fd "ExactCurves" 161 3 0 8 (.boolean, 0) false := ⟨3, sq_3, rq_3, tq_3, 4, fq_3, rfl, rfl, iq_3, by decide, rfl, wq_147, yq_3, nq_3, rfl, yq_3 0 (by decide), rfl⟩
theorem kq_E_165 : qz_Fd "ExactCurves" 165 3 1 8 (.int, 0) false := ⟨3, sq_3, rq_3, tq_3, 4, fq_3, rfl, rfl, iq_3, by decide, rfl, wq_148, yq_3, nq_3, rfl, yq_3 1 (by decide), rfl⟩
theorem kq_E_168 : qz_Fd "ExactCurves" 168 2 8 6 (.long, 0) false := ⟨2, sq_2, rq_2, tq_2, 10, fq_2, rfl, rfl, iq_2, by decide, rfl, wq_118, yq_2, nq_2, rfl, yq_2 8 (by decide), rfl⟩
theorem kq_E_171 : qz_Fd "ExactCurves" 171 3 2 8 (.long, 0) false := ⟨3, sq_3, rq_3, tq_3, 4, fq_3, rfl, rfl, iq_3, by decide, rfl, wq_149, yq_3, nq_3, rfl, yq_3 2 (by decide), rfl⟩
theorem kq_E_172 : qz_Fd "ExactCurves" 172 2 9 6 (.long, 0) false := ⟨2, sq_2, rq_2, tq_2, 10, fq_2, rfl, rfl, iq_2, by decide, rfl, wq_120, yq_2, nq_2, rfl, yq_2 9 (by decide), rfl⟩
theorem kq_E_175 : qz_Fd "ExactCurves" 175 3 3 8 (.long, 0) false := ⟨3, sq_3, rq_3, tq_3, 4, fq_3, rfl, rfl, iq_3, by decide, rfl, wq_150, yq_3, nq_3, rfl, yq_3 3 (by decide), rfl⟩
theorem kq_E_31 : qz_Fd "ExactCurves" 31 0 3 1 (.object "ExactCurves$Batch", 4) true := ⟨0, sq_0, rq_0, tq_0, 8, fq_0, rfl, rfl, iq_0, by decide, rfl, wq_219, yq_0, nq_0, rfl, yq_0 3 (by decide), rfl⟩
theorem kq_E_184 : qz_Fd "ExactCurves" 184 4 7 1 (.int, 0) false := ⟨4, sq_4, rq_4, tq_4, 10, fq_4, rfl, rfl, iq_4, by decide, rfl, wq_64, yq_4, nq_4, rfl, yq_4 7 (by decide), rfl⟩
theorem kq_E_187 : qz_Fd "ExactCurves" 187 4 5 1 (.int, 0) false := ⟨4, sq_4, rq_4, tq_4, 10, fq_4, rfl, rfl, iq_4, by decide, rfl, wq_60, yq_4, nq_4, rfl, yq_4 5 (by decide), rfl⟩
theorem kq_E_190 : qz_Fd "ExactCurves" 190 4 6 1 (.int, 0) false := ⟨4, sq_4, rq_4, tq_4, 10, fq_4, rfl, rfl, iq_4, by decide, rfl, wq_62, yq_4, nq_4, rfl, yq_4 6 (by decide), rfl⟩
theorem kq_B_9 : qz_Fd "ExactCurves$Batch" 9 4 0 1 (.array .int, 16) true := ⟨4, sq_4, rq_4, tq_4, 10, fq_4, rfl, rfl, iq_4, by decide, rfl, wq_49, yq_4, nq_4, rfl, yq_4 0 (by decide), rfl⟩
theorem kq_B_38 : qz_Fd "ExactCurves$Batch" 38 4 7 1 (.int, 0) false := ⟨4, sq_4, rq_4, tq_4, 10, fq_4, rfl, rfl, iq_4, by decide, rfl, wq_63, yq_4, nq_4, rfl, yq_4 7 (by decide), rfl⟩
theorem kq_B_15 : qz_Fd "ExactCurves$Batch" 15 4 1 1 (.array .boolean, 17) true := ⟨4, sq_4, rq_4, tq_4, 10, fq_4, rfl, rfl, iq_4, by decide, rfl, wq_51, yq_4, nq_4, rfl, yq_4 1 (by decide), rfl⟩
theorem kq_B_19 : qz_Fd "ExactCurves$Batch" 19 4 2 1 (.array .long, 18) true := ⟨4, sq_4, rq_4, tq_4, 10, fq_4, rfl, rfl, iq_4, by decide, rfl, wq_53, yq_4, nq_4, rfl, yq_4 2 (by decide), rfl⟩
theorem kq_B_23 : qz_Fd "ExactCurves$Batch" 23 4 3 1 (.array .long, 19) true := ⟨4, sq_4, rq_4, tq_4, 10, fq_4, rfl, rfl, iq_4, by decide, rfl, wq_55, yq_4, nq_4, rfl, yq_4 3 (by decide), rfl⟩
theorem kq_B_61 : qz_Fd "ExactCurves$Batch" 61 4 9 1 (.long, 0) false := ⟨4, sq_4, rq_4, tq_4, 10, fq_4, rfl, rfl, iq_4, by decide, rfl, wq_67, yq_4, nq_4, rfl, yq_4 9 (by decide), rfl⟩
theorem kq_B_65 : qz_Fd "ExactCurves$Batch" 65 4 8 1 (.int, 0) false := ⟨4, sq_4, rq_4, tq_4, 10, fq_4, rfl, rfl, iq_4, by decide, rfl, wq_65, yq_4, nq_4, rfl, yq_4 8 (by decide), rfl⟩
theorem kq_B_26 : qz_Fd "ExactCurves$Batch" 26 4 4 1 (.array .long, 20) true := ⟨4, sq_4, rq_4, tq_4, 10, fq_4, rfl, rfl, iq_4, by decide, rfl, wq_57, yq_4, nq_4, rfl, yq_4 4 (by decide), rfl⟩
theorem kq_E_231 : qz_Fd "ExactCurves" 231 4 4 1 (.array .long, 20) true := ⟨4, sq_4, rq_4, tq_4, 10, fq_4, rfl, rfl, iq_4, by decide, rfl, wq_58, yq_4, nq_4, rfl, yq_4 4 (by decide), rfl⟩
theorem kq_E_333 : qz_Fd "ExactCurves" 333 4 2 1 (.array .long, 18) true := ⟨4, sq_4, rq_4, tq_4, 10, fq_4, rfl, rfl, iq_4, by decide, rfl, wq_54, yq_4, nq_4, rfl, yq_4 2 (by decide), rfl⟩
theorem kq_E_336 : qz_Fd "ExactCurves" 336 4 3 1 (.array .long, 19) true := ⟨4, sq_4, rq_4, tq_4, 10, fq_4, rfl, rfl, iq_4, by decide, rfl, wq_56, yq_4, nq_4, rfl, yq_4 3 (by decide), rfl⟩
theorem kq_E_339 : qz_Fd "ExactCurves" 339 4 0 1 (.array .int, 16) true := ⟨4, sq_4, rq_4, tq_4, 10, fq_4, rfl, rfl, iq_4, by decide, rfl, wq_50, yq_4, nq_4, rfl, yq_4 0 (by decide), rfl⟩
theorem kq_E_215 : qz_Fd "ExactCurves" 215 4 1 1 (.array .boolean, 17) true := ⟨4, sq_4, rq_4, tq_4, 10, fq_4, rfl, rfl, iq_4, by decide, rfl, wq_52, yq_4, nq_4, rfl, yq_4 1 (by decide), rfl⟩
theorem kq_E_228 : qz_Fd "ExactCurves" 228 4 8 1 (.int, 0) false := ⟨4, sq_4, rq_4, tq_4, 10, fq_4, rfl, rfl, iq_4, by decide, rfl, wq_66, yq_4, nq_4, rfl, yq_4 8 (by decide), rfl⟩
theorem kq_E_225 : qz_Fd "ExactCurves" 225 4 9 1 (.long, 0) false := ⟨4, sq_4, rq_4, tq_4, 10, fq_4, rfl, rfl, iq_4, by decide, rfl, wq_68, yq_4, nq_4, rfl, yq_4 9 (by decide), rfl⟩
theorem kq_E_234 : qz_Fd "ExactCurves" 234 5 3 4 (.long, 0) false := ⟨5, sq_5, rq_5, tq_5, 5, fq_5, rfl, rfl, iq_5, by decide, rfl, wq_173, yq_5, nq_5, rfl, yq_5 3 (by decide), rfl⟩
theorem kq_E_281 : qz_Fd "ExactCurves" 281 6 2 10 (.int, 0) false := ⟨6, sq_6, rq_6, tq_6, 6, fq_6, rfl, rfl, iq_6, by decide, rfl, wq_196, yq_6, nq_6, rfl, yq_6 2 (by decide), rfl⟩
theorem kq_E_282 : qz_Fd "ExactCurves" 282 6 3 10 (.int, 0) false := ⟨6, sq_6, rq_6, tq_6, 6, fq_6, rfl, rfl, iq_6, by decide, rfl, wq_198, yq_6, nq_6, rfl, yq_6 3 (by decide), rfl⟩
theorem kq_E_288 : qz_Fd "ExactCurves" 288 6 5 10 (.long, 0) false := ⟨6, sq_6, rq_6, tq_6, 6, fq_6, rfl, rfl, iq_6, by decide, rfl, wq_202, yq_6, nq_6, rfl, yq_6 5 (by decide), rfl⟩
theorem kq_E_245 : qz_Fd "ExactCurves" 245 5 1 4 (.long, 0) false := ⟨5, sq_5, rq_5, tq_5, 5, fq_5, rfl, rfl, iq_5, by decide, rfl, wq_169, yq_5, nq_5, rfl, yq_5 1 (by decide), rfl⟩
theorem kq_E_43 : qz_Fd "ExactCurves" 43 0 5 1 (.array (.object "ExactCurves$Loan"), 11) true := ⟨0, sq_0, rq_0, tq_0, 8, fq_0, rfl, rfl, iq_0, by decide, rfl, wq_221, yq_0, nq_0, rfl, yq_0 5 (by decide), rfl⟩
theorem kq_E_314 : qz_Fd "ExactCurves" 314 6 0 10 (.boolean, 0) false := ⟨6, sq_6, rq_6, tq_6, 6, fq_6, rfl, rfl, iq_6, by decide, rfl, wq_192, yq_6, nq_6, rfl, yq_6 0 (by decide), rfl⟩
theorem kq_V_9 : qz_Fd "ExactCurves$Vault" 9 5 0 4 (.array .long, 21) true := ⟨5, sq_5, rq_5, tq_5, 5, fq_5, rfl, rfl, iq_5, by decide, rfl, wq_166, yq_5, nq_5, rfl, yq_5 0 (by decide), rfl⟩
theorem kq_V_24 : qz_Fd "ExactCurves$Vault" 24 5 2 4 (.long, 0) false := ⟨5, sq_5, rq_5, tq_5, 5, fq_5, rfl, rfl, iq_5, by decide, rfl, wq_170, yq_5, nq_5, rfl, yq_5 2 (by decide), rfl⟩
theorem kq_E_237 : qz_Fd "ExactCurves" 237 5 2 4 (.long, 0) false := ⟨5, sq_5, rq_5, tq_5, 5, fq_5, rfl, rfl, iq_5, by decide, rfl, wq_171, yq_5, nq_5, rfl, yq_5 2 (by decide), rfl⟩
theorem kq_E_251 : qz_Fd "ExactCurves" 251 5 0 4 (.array .long, 21) true := ⟨5, sq_5, rq_5, tq_5, 5, fq_5, rfl, rfl, iq_5, by decide, rfl, wq_167, yq_5, nq_5, rfl, yq_5 0 (by decide), rfl⟩
theorem kq_V_21 : qz_Fd "ExactCurves$Vault" 21 5 1 4 (.long, 0) false := ⟨5, sq_5, rq_5, tq_5, 5, fq_5, rfl, rfl, iq_5, by decide, rfl, wq_168, yq_5, nq_5, rfl, yq_5 1 (by decide), rfl⟩
theorem kq_L_7 : qz_Fd "ExactCurves$Loan" 7 6 0 10 (.boolean, 0) false := ⟨6, sq_6, rq_6, tq_6, 6, fq_6, rfl, rfl, iq_6, by decide, rfl, wq_191, yq_6, nq_6, rfl, yq_6 0 (by decide), rfl⟩
theorem kq_L_13 : qz_Fd "ExactCurves$Loan" 13 6 1 10 (.int, 0) false := ⟨6, sq_6, rq_6, tq_6, 6, fq_6, rfl, rfl, iq_6, by decide, rfl, wq_193, yq_6, nq_6, rfl, yq_6 1 (by decide), rfl⟩
theorem kq_L_17 : qz_Fd "ExactCurves$Loan" 17 6 2 10 (.int, 0) false := ⟨6, sq_6, rq_6, tq_6, 6, fq_6, rfl, rfl, iq_6, by decide, rfl, wq_195, yq_6, nq_6, rfl, yq_6 2 (by decide), rfl⟩
theorem kq_L_20 : qz_Fd "ExactCurves$Loan" 20 6 3 10 (.int, 0) false := ⟨6, sq_6, rq_6, tq_6, 6, fq_6, rfl, rfl, iq_6, by decide, rfl, wq_197, yq_6, nq_6, rfl, yq_6 3 (by decide), rfl⟩
theorem kq_L_23 : qz_Fd "ExactCurves$Loan" 23 6 4 10 (.long, 0) false := ⟨6, sq_6, rq_6, tq_6, 6, fq_6, rfl, rfl, iq_6, by decide, rfl, wq_199, yq_6, nq_6, rfl, yq_6 4 (by decide), rfl⟩
theorem kq_L_27 : qz_Fd "ExactCurves$Loan" 27 6 5 10 (.long, 0) false := ⟨6, sq_6, rq_6, tq_6, 6, fq_6, rfl, rfl, iq_6, by decide, rfl, wq_201, yq_6, nq_6, rfl, yq_6 5 (by decide), rfl⟩
theorem kq_E_285 : qz_Fd "ExactCurves" 285 6 4 10 (.long, 0) false := ⟨6, sq_6, rq_6, tq_6, 6, fq_6, rfl, rfl, iq_6, by decide, rfl, wq_200, yq_6, nq_6, rfl, yq_6 4 (by decide), rfl⟩
theorem kq_E_278 : qz_Fd "ExactCurves" 278 6 1 10 (.int, 0) false := ⟨6, sq_6, rq_6, tq_6, 6, fq_6, rfl, rfl, iq_6, by decide, rfl, wq_194, yq_6, nq_6, rfl, yq_6 1 (by decide), rfl⟩
theorem kq_M_106 : qz_Fd "ExactCurvesModel" 106 7 37 1 (.array .long, 52) true := ⟨7, sq_7, rq_7, tq_7, 42, fq_7, rfl, rfl, iq_7, by decide, rfl, wq_641, yq_7, nq_7, rfl, yq_7 37 (by decide), rfl⟩
theorem kq_M_112 : qz_Fd "ExactCurvesModel" 112 7 39 1 (.array .long, 54) true := ⟨7, sq_7, rq_7, tq_7, 42, fq_7, rfl, rfl, iq_7, by decide, rfl, wq_643, yq_7, nq_7, rfl, yq_7 39 (by decide), rfl⟩
theorem kq_M_115 : qz_Fd "ExactCurvesModel" 115 7 40 1 (.array .long, 55) true := ⟨7, sq_7, rq_7, tq_7, 42, fq_7, rfl, rfl, iq_7, by decide, rfl, wq_644, yq_7, nq_7, rfl, yq_7 40 (by decide), rfl⟩
theorem kq_M_122 : qz_Fd "ExactCurvesModel" 122 7 41 1 (.long, 0) false := ⟨7, sq_7, rq_7, tq_7, 42, fq_7, rfl, rfl, iq_7, by decide, rfl, wq_645, yq_7, nq_7, rfl, yq_7 41 (by decide), rfl⟩
theorem kq_M_109 : qz_Fd "ExactCurvesModel" 109 7 38 1 (.array .long, 53) true := ⟨7, sq_7, rq_7, tq_7, 42, fq_7, rfl, rfl, iq_7, by decide, rfl, wq_642, yq_7, nq_7, rfl, yq_7 38 (by decide), rfl⟩
theorem kq_M_145 : qz_Fd "ExactCurvesModel" 145 7 3 1 (.int, 0) false := ⟨7, sq_7, rq_7, tq_7, 42, fq_7, rfl, rfl, iq_7, by decide, rfl, wq_607, yq_7, nq_7, rfl, yq_7 3 (by decide), rfl⟩
theorem kq_M_7 : qz_Fd "ExactCurvesModel" 7 7 0 1 (.array .long, 22) true := ⟨7, sq_7, rq_7, tq_7, 42, fq_7, rfl, rfl, iq_7, by decide, rfl, wq_604, yq_7, nq_7, rfl, yq_7 0 (by decide), rfl⟩
theorem kq_M_57 : qz_Fd "ExactCurvesModel" 57 7 19 1 (.array .boolean, 36) true := ⟨7, sq_7, rq_7, tq_7, 42, fq_7, rfl, rfl, iq_7, by decide, rfl, wq_623, yq_7, nq_7, rfl, yq_7 19 (by decide), rfl⟩
theorem kq_M_61 : qz_Fd "ExactCurvesModel" 61 7 20 1 (.array .long, 37) true := ⟨7, sq_7, rq_7, tq_7, 42, fq_7, rfl, rfl, iq_7, by decide, rfl, wq_624, yq_7, nq_7, rfl, yq_7 20 (by decide), rfl⟩
theorem kq_M_64 : qz_Fd "ExactCurvesModel" 64 7 21 1 (.array .long, 38) true := ⟨7, sq_7, rq_7, tq_7, 42, fq_7, rfl, rfl, iq_7, by decide, rfl, wq_625, yq_7, nq_7, rfl, yq_7 21 (by decide), rfl⟩
theorem kq_M_16 : qz_Fd "ExactCurvesModel" 16 7 4 1 (.array .int, 24) true := ⟨7, sq_7, rq_7, tq_7, 42, fq_7, rfl, rfl, iq_7, by decide, rfl, wq_608, yq_7, nq_7, rfl, yq_7 4 (by decide), rfl⟩
theorem kq_M_94 : qz_Fd "ExactCurvesModel" 94 7 33 1 (.array .int, 48) true := ⟨7, sq_7, rq_7, tq_7, 42, fq_7, rfl, rfl, iq_7, by decide, rfl, wq_637, yq_7, nq_7, rfl, yq_7 33 (by decide), rfl⟩
theorem kq_M_97 : qz_Fd "ExactCurvesModel" 97 7 34 1 (.array .int, 49) true := ⟨7, sq_7, rq_7, tq_7, 42, fq_7, rfl, rfl, iq_7, by decide, rfl, wq_638, yq_7, nq_7, rfl, yq_7 34 (by decide), rfl⟩
theorem kq_M_13 : qz_Fd "ExactCurvesModel" 13 7 1 1 (.array .long, 23) true := ⟨7, sq_7, rq_7, tq_7, 42, fq_7, rfl, rfl, iq_7, by decide, rfl, wq_605, yq_7, nq_7, rfl, yq_7 1 (by decide), rfl⟩
theorem kq_M_73 : qz_Fd "ExactCurvesModel" 73 7 26 1 (.array .long, 41) true := ⟨7, sq_7, rq_7, tq_7, 42, fq_7, rfl, rfl, iq_7, by decide, rfl, wq_630, yq_7, nq_7, rfl, yq_7 26 (by decide), rfl⟩
theorem kq_M_152 : qz_Fd "ExactCurvesModel" 152 7 17 1 (.int, 0) false := ⟨7, sq_7, rq_7, tq_7, 42, fq_7, rfl, rfl, iq_7, by decide, rfl, wq_621, yq_7, nq_7, rfl, yq_7 17 (by decide), rfl⟩
theorem kq_M_88 : qz_Fd "ExactCurvesModel" 88 7 31 1 (.array .boolean, 46) true := ⟨7, sq_7, rq_7, tq_7, 42, fq_7, rfl, rfl, iq_7, by decide, rfl, wq_635, yq_7, nq_7, rfl, yq_7 31 (by decide), rfl⟩
theorem kq_M_100 : qz_Fd "ExactCurvesModel" 100 7 35 1 (.array .long, 50) true := ⟨7, sq_7, rq_7, tq_7, 42, fq_7, rfl, rfl, iq_7, by decide, rfl, wq_639, yq_7, nq_7, rfl, yq_7 35 (by decide), rfl⟩
theorem kq_M_155 : qz_Fd "ExactCurvesModel" 155 7 15 1 (.int, 0) false := ⟨7, sq_7, rq_7, tq_7, 42, fq_7, rfl, rfl, iq_7, by decide, rfl, wq_619, yq_7, nq_7, rfl, yq_7 15 (by decide), rfl⟩
theorem kq_M_50 : qz_Fd "ExactCurvesModel" 50 7 16 1 (.int, 0) false := ⟨7, sq_7, rq_7, tq_7, 42, fq_7, rfl, rfl, iq_7, by decide, rfl, wq_620, yq_7, nq_7, rfl, yq_7 16 (by decide), rfl⟩
theorem kq_M_26 : qz_Fd "ExactCurvesModel" 26 7 7 1 (.array .long, 27) true := ⟨7, sq_7, rq_7, tq_7, 42, fq_7, rfl, rfl, iq_7, by decide, rfl, wq_611, yq_7, nq_7, rfl, yq_7 7 (by decide), rfl⟩
theorem kq_M_20 : qz_Fd "ExactCurvesModel" 20 7 5 1 (.array .int, 25) true := ⟨7, sq_7, rq_7, tq_7, 42, fq_7, rfl, rfl, iq_7, by decide, rfl, wq_609, yq_7, nq_7, rfl, yq_7 5 (by decide), rfl⟩
theorem kq_M_23 : qz_Fd "ExactCurvesModel" 23 7 6 1 (.array .int, 26) true := ⟨7, sq_7, rq_7, tq_7, 42, fq_7, rfl, rfl, iq_7, by decide, rfl, wq_610, yq_7, nq_7, rfl, yq_7 6 (by decide), rfl⟩
theorem kq_M_29 : qz_Fd "ExactCurvesModel" 29 7 8 1 (.array .long, 28) true := ⟨7, sq_7, rq_7, tq_7, 42, fq_7, rfl, rfl, iq_7, by decide, rfl, wq_612, yq_7, nq_7, rfl, yq_7 8 (by decide), rfl⟩
theorem kq_M_35 : qz_Fd "ExactCurvesModel" 35 7 10 1 (.array .long, 30) true := ⟨7, sq_7, rq_7, tq_7, 42, fq_7, rfl, rfl, iq_7, by decide, rfl, wq_614, yq_7, nq_7, rfl, yq_7 10 (by decide), rfl⟩
theorem kq_M_38 : qz_Fd "ExactCurvesModel" 38 7 11 1 (.array .long, 31) true := ⟨7, sq_7, rq_7, tq_7, 42, fq_7, rfl, rfl, iq_7, by decide, rfl, wq_615, yq_7, nq_7, rfl, yq_7 11 (by decide), rfl⟩
theorem kq_M_32 : qz_Fd "ExactCurvesModel" 32 7 9 1 (.array .long, 29) true := ⟨7, sq_7, rq_7, tq_7, 42, fq_7, rfl, rfl, iq_7, by decide, rfl, wq_613, yq_7, nq_7, rfl, yq_7 9 (by decide), rfl⟩
theorem kq_M_215 : qz_Fd "ExactCurvesModel" 215 7 2 1 (.int, 0) false := ⟨7, sq_7, rq_7, tq_7, 42, fq_7, rfl, rfl, iq_7, by decide, rfl, wq_606, yq_7, nq_7, rfl, yq_7 2 (by decide), rfl⟩
theorem kq_M_82 : qz_Fd "ExactCurvesModel" 82 7 29 1 (.array .long, 44) true := ⟨7, sq_7, rq_7, tq_7, 42, fq_7, rfl, rfl, iq_7, by decide, rfl, wq_633, yq_7, nq_7, rfl, yq_7 29 (by decide), rfl⟩
theorem kq_M_85 : qz_Fd "ExactCurvesModel" 85 7 30 1 (.array .long, 45) true := ⟨7, sq_7, rq_7, tq_7, 42, fq_7, rfl, rfl, iq_7, by decide, rfl, wq_634, yq_7, nq_7, rfl, yq_7 30 (by decide), rfl⟩
theorem kq_M_41 : qz_Fd "ExactCurvesModel" 41 7 12 1 (.array .int, 32) true := ⟨7, sq_7, rq_7, tq_7, 42, fq_7, rfl, rfl, iq_7, by decide, rfl, wq_616, yq_7, nq_7, rfl, yq_7 12 (by decide), rfl⟩
theorem kq_M_44 : qz_Fd "ExactCurvesModel" 44 7 13 1 (.array .long, 33) true := ⟨7, sq_7, rq_7, tq_7, 42, fq_7, rfl, rfl, iq_7, by decide, rfl, wq_617, yq_7, nq_7, rfl, yq_7 13 (by decide), rfl⟩
theorem kq_M_47 : qz_Fd "ExactCurvesModel" 47 7 14 1 (.array .long, 34) true := ⟨7, sq_7, rq_7, tq_7, 42, fq_7, rfl, rfl, iq_7, by decide, rfl, wq_618, yq_7, nq_7, rfl, yq_7 14 (by decide), rfl⟩
theorem kq_M_54 : qz_Fd "ExactCurvesModel" 54 7 18 1 (.array .int, 35) true := ⟨7, sq_7, rq_7, tq_7, 42, fq_7, rfl, rfl, iq_7, by decide, rfl, wq_622, yq_7, nq_7, rfl, yq_7 18 (by decide), rfl⟩
theorem kq_M_70 : qz_Fd "ExactCurvesModel" 70 7 25 1 (.array .boolean, 40) true := ⟨7, sq_7, rq_7, tq_7, 42, fq_7, rfl, rfl, iq_7, by decide, rfl, wq_629, yq_7, nq_7, rfl, yq_7 25 (by decide), rfl⟩
theorem kq_M_67 : qz_Fd "ExactCurvesModel" 67 7 24 1 (.array .long, 39) true := ⟨7, sq_7, rq_7, tq_7, 42, fq_7, rfl, rfl, iq_7, by decide, rfl, wq_628, yq_7, nq_7, rfl, yq_7 24 (by decide), rfl⟩
theorem kq_M_242 : qz_Fd "ExactCurvesModel" 242 7 23 1 (.int, 0) false := ⟨7, sq_7, rq_7, tq_7, 42, fq_7, rfl, rfl, iq_7, by decide, rfl, wq_627, yq_7, nq_7, rfl, yq_7 23 (by decide), rfl⟩
theorem kq_M_245 : qz_Fd "ExactCurvesModel" 245 7 22 1 (.long, 0) false := ⟨7, sq_7, rq_7, tq_7, 42, fq_7, rfl, rfl, iq_7, by decide, rfl, wq_626, yq_7, nq_7, rfl, yq_7 22 (by decide), rfl⟩
theorem kq_M_103 : qz_Fd "ExactCurvesModel" 103 7 36 1 (.array .long, 51) true := ⟨7, sq_7, rq_7, tq_7, 42, fq_7, rfl, rfl, iq_7, by decide, rfl, wq_640, yq_7, nq_7, rfl, yq_7 36 (by decide), rfl⟩
theorem kq_M_76 : qz_Fd "ExactCurvesModel" 76 7 27 1 (.array .long, 42) true := ⟨7, sq_7, rq_7, tq_7, 42, fq_7, rfl, rfl, iq_7, by decide, rfl, wq_631, yq_7, nq_7, rfl, yq_7 27 (by decide), rfl⟩
theorem kq_M_79 : qz_Fd "ExactCurvesModel" 79 7 28 1 (.array .long, 43) true := ⟨7, sq_7, rq_7, tq_7, 42, fq_7, rfl, rfl, iq_7, by decide, rfl, wq_632, yq_7, nq_7, rfl, yq_7 28 (by decide), rfl⟩
theorem kq_M_91 : qz_Fd "ExactCurvesModel" 91 7 32 1 (.array .int, 47) true := ⟨7, sq_7, rq_7, tq_7, 42, fq_7, rfl, rfl, iq_7, by decide, rfl, wq_636, yq_7, nq_7, rfl, yq_7 32 (by decide), rfl⟩
theorem kq_U_15 : qz_Fd "ExactCurves$Purses" 15 1 1 1 (.array .long, 13) true := ⟨1, sq_1, rq_1, tq_1, 3, fq_1, rfl, rfl, iq_1, by decide, rfl, wq_27, yq_1, nq_1, rfl, yq_1 1 (by decide), rfl⟩
theorem kq_U_18 : qz_Fd "ExactCurves$Purses" 18 1 2 1 (.array .long, 14) true := ⟨1, sq_1, rq_1, tq_1, 3, fq_1, rfl, rfl, iq_1, by decide, rfl, wq_29, yq_1, nq_1, rfl, yq_1 2 (by decide), rfl⟩
theorem kq_B_29 : qz_Fd "ExactCurves$Batch" 29 4 5 1 (.int, 0) false := ⟨4, sq_4, rq_4, tq_4, 10, fq_4, rfl, rfl, iq_4, by decide, rfl, wq_59, yq_4, nq_4, rfl, yq_4 5 (by decide), rfl⟩
theorem kq_B_33 : qz_Fd "ExactCurves$Batch" 33 4 6 1 (.int, 0) false := ⟨4, sq_4, rq_4, tq_4, 10, fq_4, rfl, rfl, iq_4, by decide, rfl, wq_61, yq_4, nq_4, rfl, yq_4 6 (by decide), rfl⟩
theorem cq_E_51 : qz_Cs "ExactCurves" 51 yE_isPlayer prog_1_method_29_code 1 (some .boolean) 1 := ⟨⟨wq_247, wq_245, wq_1, by decide +kernel⟩, wq_246⟩
theorem cq_E_55 : qz_Cs "ExactCurves" 55 yE_isToken prog_1_method_30_code 1 (some .boolean) 1 := ⟨⟨wq_250, wq_248, wq_1, by decide +kernel⟩, wq_249⟩
theorem cq_E_68 : qz_Cv "ExactCurves" 68 yU_give prog_7_method_3_code 5 none 3 1 1 := ⟨⟨wq_257, wq_254, wq_2, by decide +kernel⟩, wq_255, wq_256, 1, sq_1, tq_1, 3, rfl, rfl⟩
theorem cq_E_72 : qz_Cv "ExactCurves" 72 yU_held prog_7_method_2_code 3 (some .long) 2 1 1 := ⟨⟨wq_261, wq_258, wq_2, by decide +kernel⟩, wq_259, wq_260, 1, sq_1, tq_1, 3, rfl, rfl⟩
theorem cq_E_95 : qz_Cv "ExactCurves" 95 yE_poolAt prog_1_method_32_code 2 (some (.object "ExactCurves$Pool")) 1 0 1 := ⟨⟨wq_285, wq_282, wq_1, by decide +kernel⟩, wq_284, wp_0, 0, sq_0, tq_0, 8, rfl, rfl⟩
theorem cq_E_99 : qz_Cv "ExactCurves" 99 yP_told prog_6_method_6_code 2 (some .long) 1 2 6 := ⟨⟨wq_289, wq_286, wq_4, by decide +kernel⟩, wq_287, wq_288, 2, sq_2, tq_2, 10, rfl, rfl⟩
theorem cq_A_15 : qz_Cs "ExactCurves$Exact" 15 yA_highOf prog_3_method_2_code 16 (some .long) 2 := ⟨⟨wq_308, wq_306, wq_9, by decide +kernel⟩, wq_307⟩
theorem cq_A_26 : qz_Cs "ExactCurves$Exact" 26 yJl_compare prog_11_method_42_code 4 (some .int) 2 := ⟨⟨wq_312, wq_310, wq_10, by decide +kernel⟩, wq_311⟩
theorem cq_A_34 : qz_Cs "ExactCurves$Exact" 34 yA_compareProducts prog_3_method_6_code 9 (some .int) 4 := ⟨⟨wq_305, wq_303, wq_9, by decide +kernel⟩, wq_304⟩
theorem cq_A_19 : qz_Cs "ExactCurves$Exact" 19 yA_over prog_3_method_3_code 11 (some .long) 3 := ⟨⟨wq_324, wq_322, wq_9, by decide +kernel⟩, wq_323⟩
theorem cq_P_64 : qz_Cs "ExactCurves$Pool" 64 yA_timesOver prog_3_method_4_code 6 (some .long) 3 := ⟨⟨wq_321, wq_319, wq_9, by decide +kernel⟩, wq_320⟩
theorem cq_P_52 : qz_Cv "ExactCurves$Pool" 52 yP_sharesBy prog_6_method_8_code 5 (some .long) 2 2 6 := ⟨⟨wq_317, wq_314, wq_4, by decide +kernel⟩, wq_316, wp_1, 2, sq_2, tq_2, 10, rfl, rfl⟩
theorem cq_P_46 : qz_Cs "ExactCurves$Pool" 46 yA_rootOfProduct prog_3_method_7_code 8 (some .long) 2 := ⟨⟨wq_301, wq_299, wq_9, by decide +kernel⟩, wq_300⟩
theorem cq_A_23 : qz_Cs "ExactCurves$Exact" 23 yA_timesOver prog_3_method_4_code 6 (some .long) 3 := ⟨⟨wq_321, wq_340, wq_9, by decide +kernel⟩, wq_320⟩
theorem cq_P_68 : qz_Cv "ExactCurves$Pool" 68 yP_reserveAt prog_6_method_3_code 2 (some .long) 1 2 6 := ⟨⟨wq_336, wq_333, wq_4, by decide +kernel⟩, wq_334, wq_335, 2, sq_2, tq_2, 10, rfl, rfl⟩
theorem cq_P_72 : qz_Cs "ExactCurves$Pool" 72 yA_timesOverUp prog_3_method_5_code 9 (some .long) 3 := ⟨⟨wq_339, wq_337, wq_9, by decide +kernel⟩, wq_338⟩
theorem cq_E_135 : qz_Cv "ExactCurves" 135 yP_tokenAt prog_6_method_2_code 2 (some .int) 1 2 6 := ⟨⟨wq_348, wq_345, wq_4, by decide +kernel⟩, wq_346, wq_347, 2, sq_2, tq_2, 10, rfl, rfl⟩
theorem cq_E_200 : qz_Cv "ExactCurves" 200 yU_take prog_7_method_4_code 5 none 3 1 1 := ⟨⟨wq_352, wq_349, wq_2, by decide +kernel⟩, wq_350, wq_351, 1, sq_1, tq_1, 3, rfl, rfl⟩
theorem cq_E_330 : qz_Cv "ExactCurves" 330 yP_addReserve prog_6_method_4_code 4 none 2 2 6 := ⟨⟨wq_356, wq_353, wq_4, by decide +kernel⟩, wq_354, wq_355, 2, sq_2, tq_2, 10, rfl, rfl⟩
theorem cq_E_103 : qz_Cv "ExactCurves" 103 yP_sharesFor prog_6_method_7_code 5 (some .long) 2 2 6 := ⟨⟨wq_298, wq_295, wq_4, by decide +kernel⟩, wq_296, wq_297, 2, sq_2, tq_2, 10, rfl, rfl⟩
theorem cq_E_111 : qz_Cv "ExactCurves" 111 yP_costOf prog_6_method_9_code 4 (some .long) 2 2 6 := ⟨⟨wq_332, wq_329, wq_4, by decide +kernel⟩, wq_330, wq_331, 2, sq_2, tq_2, 10, rfl, rfl⟩
theorem cq_E_115 : qz_Cv "ExactCurves" 115 yE_bringIn prog_1_method_33_code 6 none 4 0 1 := ⟨⟨wq_344, wq_341, wq_1, by decide +kernel⟩, wq_343, wp_2, 0, sq_0, tq_0, 8, rfl, rfl⟩
theorem cq_E_119 : qz_Cv "ExactCurves" 119 yP_addShares prog_6_method_5_code 4 none 2 2 6 := ⟨⟨wq_360, wq_357, wq_4, by decide +kernel⟩, wq_358, wq_359, 2, sq_2, tq_2, 10, rfl, rfl⟩
theorem cq_E_126 : qz_Cv "ExactCurves" 126 yP_payOf prog_6_method_10_code 4 (some .long) 2 2 6 := ⟨⟨wq_368, wq_365, wq_4, by decide +kernel⟩, wq_366, wq_367, 2, sq_2, tq_2, 10, rfl, rfl⟩
theorem cq_E_129 : qz_Cv "ExactCurves" 129 yE_takeOut prog_1_method_34_code 6 none 4 0 1 := ⟨⟨wq_372, wq_369, wq_1, by decide +kernel⟩, wq_371, wp_3, 0, sq_0, tq_0, 8, rfl, rfl⟩
theorem cq_E_132 : qz_Cs "ExactCurves" 132 yE_isSide prog_1_method_31_code 1 (some .boolean) 1 := ⟨⟨wq_379, wq_377, wq_1, by decide +kernel⟩, wq_378⟩
theorem cq_E_139 : qz_Cv "ExactCurves" 139 yP_outputOf prog_6_method_11_code 12 (some .long) 2 2 6 := ⟨⟨wq_383, wq_380, wq_4, by decide +kernel⟩, wq_381, wq_382, 2, sq_2, tq_2, 10, rfl, rfl⟩
theorem cq_P_77 : qz_Cs "ExactCurves$Pool" 77 yA_compareProducts prog_3_method_6_code 9 (some .int) 4 := ⟨⟨wq_305, wq_397, wq_9, by decide +kernel⟩, wq_304⟩
theorem cq_E_149 : qz_Cv "ExactCurves" 149 yP_mayBecome prog_6_method_12_code 13 (some .boolean) 4 2 6 := ⟨⟨wq_396, wq_393, wq_4, by decide +kernel⟩, wq_394, wq_395, 2, sq_2, tq_2, 10, rfl, rfl⟩
theorem cq_E_157 : qz_Cv "ExactCurves" 157 yV_grow prog_8_method_4_code 3 none 1 5 4 := ⟨⟨wq_410, wq_407, wq_6, by decide +kernel⟩, wq_408, wq_409, 5, sq_5, tq_5, 5, rfl, rfl⟩
theorem cq_E_153 : qz_Cv "ExactCurves" 153 yP_grow prog_6_method_13_code 2 none 1 2 6 := ⟨⟨wq_405, wq_402, wq_4, by decide +kernel⟩, wq_403, wq_404, 2, sq_2, tq_2, 10, rfl, rfl⟩
theorem cq_E_178 : qz_Cs "ExactCurves" 178 yA_over prog_3_method_3_code 11 (some .long) 3 := ⟨⟨wq_324, wq_422, wq_9, by decide +kernel⟩, wq_323⟩
theorem cq_E_203 : qz_Cv "ExactCurves" 203 yB_put prog_2_method_3_code 7 (some .int) 4 4 1 := ⟨⟨wq_440, wq_437, wq_3, by decide +kernel⟩, wq_438, wq_439, 4, sq_4, tq_4, 10, rfl, rfl⟩
theorem cq_E_197 : qz_Cs "ExactCurves" 197 yB_priceUp prog_2_method_2_code 4 (some .long) 2 := ⟨⟨wq_435, wq_433, wq_3, by decide +kernel⟩, wq_434⟩
theorem cq_B_41 : qz_Cv "ExactCurves$Batch" 41 yB_boughtAt prog_2_method_4_code 6 (some .long) 1 4 1 := ⟨⟨wq_452, wq_449, wq_3, by decide +kernel⟩, wq_450, wq_451, 4, sq_4, tq_4, 10, rfl, rfl⟩
theorem cq_B_45 : qz_Cv "ExactCurves$Batch" 45 yB_soldAt prog_2_method_5_code 6 (some .long) 1 4 1 := ⟨⟨wq_456, wq_453, wq_3, by decide +kernel⟩, wq_454, wq_455, 4, sq_4, tq_4, 10, rfl, rfl⟩
theorem cq_B_68 : qz_Cv "ExactCurves$Batch" 68 yB_isBefore prog_2_method_9_code 3 (some .boolean) 2 4 1 := ⟨⟨wq_472, wq_469, wq_3, by decide +kernel⟩, wq_471, wp_4, 4, sq_4, tq_4, 10, rfl, rfl⟩
theorem cq_B_57 : qz_Cv "ExactCurves$Batch" 57 yB_beforeOrder prog_2_method_8_code 5 (some .long) 1 4 1 := ⟨⟨wq_468, wq_465, wq_3, by decide +kernel⟩, wq_466, wq_467, 4, sq_4, tq_4, 10, rfl, rfl⟩
theorem cq_E_207 : qz_Cv "ExactCurves" 207 yB_bestPrice prog_2_method_6_code 19 (some .long) 0 4 1 := ⟨⟨wq_448, wq_445, wq_3, by decide +kernel⟩, wq_446, wq_447, 4, sq_4, tq_4, 10, rfl, rfl⟩
theorem cq_E_211 : qz_Cv "ExactCurves" 211 yB_dealAt prog_2_method_7_code 6 none 1 4 1 := ⟨⟨wq_464, wq_461, wq_3, by decide +kernel⟩, wq_462, wq_463, 4, sq_4, tq_4, 10, rfl, rfl⟩
theorem cq_E_222 : qz_Cv "ExactCurves" 222 yE_settleSeller prog_1_method_36_code 8 none 2 0 1 := ⟨⟨wq_480, wq_477, wq_1, by decide +kernel⟩, wq_479, wp_6, 0, sq_0, tq_0, 8, rfl, rfl⟩
theorem cq_E_219 : qz_Cv "ExactCurves" 219 yE_settleBuyer prog_1_method_35_code 10 none 2 0 1 := ⟨⟨wq_476, wq_473, wq_1, by decide +kernel⟩, wq_475, wp_5, 0, sq_0, tq_0, 8, rfl, rfl⟩
theorem cq_V_40 : qz_Cs "ExactCurves$Vault" 40 yA_timesOverUp prog_3_method_5_code 9 (some .long) 3 := ⟨⟨wq_339, wq_510, wq_9, by decide +kernel⟩, wq_338⟩
theorem cq_E_307 : qz_Cv "ExactCurves" 307 yE_debtToken prog_1_method_42_code 2 (some .int) 1 0 1 := ⟨⟨wq_501, wq_498, wq_1, by decide +kernel⟩, wq_500, wp_8, 0, sq_0, tq_0, 8, rfl, rfl⟩
theorem cq_E_345 : qz_Cv "ExactCurves" 345 yV_debtOf prog_8_method_5_code 3 (some .long) 1 5 4 := ⟨⟨wq_509, wq_506, wq_6, by decide +kernel⟩, wq_507, wq_508, 5, sq_5, tq_5, 5, rfl, rfl⟩
theorem cq_E_291 : qz_Cv "ExactCurves" 291 yE_debtOf prog_1_method_43_code 2 (some .long) 1 0 1 := ⟨⟨wq_505, wq_502, wq_1, by decide +kernel⟩, wq_504, wp_9, 0, sq_0, tq_0, 8, rfl, rfl⟩
theorem cq_E_239 : qz_Cv "ExactCurves" 239 yE_worthOf prog_1_method_37_code 5 (some .long) 1 0 1 := ⟨⟨wq_497, wq_494, wq_1, by decide +kernel⟩, wq_496, wp_7, 0, sq_0, tq_0, 8, rfl, rfl⟩
theorem cq_E_242 : qz_Cs "ExactCurves" 242 yA_timesOver prog_3_method_4_code 6 (some .long) 3 := ⟨⟨wq_321, wq_511, wq_9, by decide +kernel⟩, wq_320⟩
theorem cq_E_248 : qz_Cv "ExactCurves" 248 yV_addParts prog_8_method_3_code 4 none 2 5 4 := ⟨⟨wq_515, wq_512, wq_6, by decide +kernel⟩, wq_513, wq_514, 5, sq_5, tq_5, 5, rfl, rfl⟩
theorem cq_E_254 : qz_Cv "ExactCurves" 254 yV_told prog_8_method_2_code 2 (some .long) 1 5 4 := ⟨⟨wq_527, wq_524, wq_6, by decide +kernel⟩, wq_525, wq_526, 5, sq_5, tq_5, 5, rfl, rfl⟩
theorem cq_E_255 : qz_Cv "ExactCurves" 255 yE_freeLoan prog_1_method_39_code 2 (some .int) 0 0 1 := ⟨⟨wq_536, wq_533, wq_1, by decide +kernel⟩, wq_535, wp_10, 0, sq_0, tq_0, 8, rfl, rfl⟩
theorem cq_E_263 : qz_Cv "ExactCurves" 263 yP_valueOf prog_6_method_14_code 6 (some .long) 2 2 6 := ⟨⟨wq_542, wq_539, wq_4, by decide +kernel⟩, wq_540, wq_541, 2, sq_2, tq_2, 10, rfl, rfl⟩
theorem cq_E_266 : qz_Cv "ExactCurves" 266 yV_unitsOf prog_8_method_6_code 3 (some .long) 1 5 4 := ⟨⟨wq_547, wq_544, wq_6, by decide +kernel⟩, wq_545, wq_546, 5, sq_5, tq_5, 5, rfl, rfl⟩
theorem cq_E_270 : qz_Cv "ExactCurves" 270 yL_begin prog_4_method_2_code 8 none 5 6 10 := ⟨⟨wq_551, wq_548, wq_7, by decide +kernel⟩, wq_549, wq_550, 6, sq_6, tq_6, 6, rfl, rfl⟩
theorem cq_E_295 : qz_Cv "ExactCurves" 295 yE_coverValue prog_1_method_44_code 2 (some .long) 1 0 1 := ⟨⟨wq_563, wq_560, wq_1, by decide +kernel⟩, wq_562, wp_12, 0, sq_0, tq_0, 8, rfl, rfl⟩
theorem cq_E_274 : qz_Cv "ExactCurves" 274 yE_loanAt prog_1_method_38_code 2 (some (.object "ExactCurves$Loan")) 1 0 1 := ⟨⟨wq_559, wq_556, wq_1, by decide +kernel⟩, wq_558, wp_11, 0, sq_0, tq_0, 8, rfl, rfl⟩
theorem cq_E_298 : qz_Cv "ExactCurves" 298 yE_isUncovered prog_1_method_45_code 2 (some .boolean) 1 0 1 := ⟨⟨wq_567, wq_564, wq_1, by decide +kernel⟩, wq_566, wp_13, 0, sq_0, tq_0, 8, rfl, rfl⟩
theorem cq_E_311 : qz_Cv "ExactCurves" 311 yE_coverToken prog_1_method_41_code 2 (some .int) 1 0 1 := ⟨⟨wq_577, wq_574, wq_1, by decide +kernel⟩, wq_576, wp_14, 0, sq_0, tq_0, 8, rfl, rfl⟩
theorem cq_E_321 : qz_Cs "ExactCurves" 321 yA_timesOverUp prog_3_method_5_code 9 (some .long) 3 := ⟨⟨wq_339, wq_584, wq_9, by decide +kernel⟩, wq_338⟩
theorem cq_E_324 : qz_Cv "ExactCurves" 324 yP_leastOfValue prog_6_method_15_code 8 (some .long) 2 2 6 := ⟨⟨wq_588, wq_585, wq_4, by decide +kernel⟩, wq_586, wq_587, 2, sq_2, tq_2, 10, rfl, rfl⟩
theorem cq_E_327 : qz_Cv "ExactCurves" 327 yE_openLoans prog_1_method_40_code 3 (some .int) 0 0 1 := ⟨⟨wq_596, wq_593, wq_1, by decide +kernel⟩, wq_595, wp_15, 0, sq_0, tq_0, 8, rfl, rfl⟩
theorem cq_M_130 : qz_Cv "ExactCurvesModel" 130 yM_begin prog_10_method_2_code 4 none 1 7 1 := ⟨⟨wq_803, wq_800, wq_8, by decide +kernel⟩, wq_802, wp_23, 7, sq_7, tq_7, 42, rfl, rfl⟩
theorem cq_M_134 : qz_Cv "ExactCurvesModel" 134 yM_times prog_10_method_3_code 9 none 1 7 1 := ⟨⟨wq_808, wq_805, wq_8, by decide +kernel⟩, wq_807, wp_24, 7, sq_7, tq_7, 42, rfl, rfl⟩
theorem cq_M_137 : qz_Cv "ExactCurvesModel" 137 yM_over prog_10_method_4_code 7 (some .long) 1 7 1 := ⟨⟨wq_824, wq_821, wq_8, by decide +kernel⟩, wq_823, wp_28, 7, sq_7, tq_7, 42, rfl, rfl⟩
theorem cq_M_141 : qz_Cv "ExactCurvesModel" 141 yM_part prog_10_method_5_code 7 (some .long) 3 7 1 := ⟨⟨wq_820, wq_817, wq_8, by decide +kernel⟩, wq_819, wp_27, 7, sq_7, tq_7, 42, rfl, rfl⟩
theorem cq_M_227 : qz_Cs "ExactCurvesModel" 227 yM_up prog_10_method_35_code 4 (some .long) 2 := ⟨⟨wq_758, wq_756, wq_8, by decide +kernel⟩, wq_757⟩
theorem cq_M_162 : qz_Cv "ExactCurvesModel" 162 yM_coverToken prog_10_method_44_code 2 (some .int) 1 7 1 := ⟨⟨wq_762, wq_759, wq_8, by decide +kernel⟩, wq_761, wp_19, 7, sq_7, tq_7, 42, rfl, rfl⟩
theorem cq_M_158 : qz_Cv "ExactCurvesModel" 158 yM_heldBy prog_10_method_36_code 2 (some .long) 1 7 1 := ⟨⟨wq_754, wq_751, wq_8, by decide +kernel⟩, wq_753, wp_18, 7, sq_7, tq_7, 42, rfl, rfl⟩
theorem cq_M_148 : qz_Cv "ExactCurvesModel" 148 yM_has prog_10_method_14_code 3 (some .long) 2 7 1 := ⟨⟨wq_750, wq_747, wq_8, by decide +kernel⟩, wq_749, wp_17, 7, sq_7, tq_7, 42, rfl, rfl⟩
theorem cq_M_166 : qz_Cs "ExactCurvesModel" 166 yM_isPlayer prog_10_method_10_code 1 (some .boolean) 1 := ⟨⟨wq_737, wq_735, wq_8, by decide +kernel⟩, wq_736⟩
theorem cq_M_170 : qz_Cs "ExactCurvesModel" 170 yM_isToken prog_10_method_11_code 1 (some .boolean) 1 := ⟨⟨wq_740, wq_738, wq_8, by decide +kernel⟩, wq_739⟩
theorem cq_M_177 : qz_Cv "ExactCurvesModel" 177 yM_allOf prog_10_method_16_code 6 (some .long) 1 7 1 := ⟨⟨wq_746, wq_743, wq_8, by decide +kernel⟩, wq_745, wp_16, 7, sq_7, tq_7, 42, rfl, rfl⟩
theorem cq_M_182 : qz_Cv "ExactCurvesModel" 182 yM_give prog_10_method_15_code 5 none 3 7 1 := ⟨⟨wq_767, wq_764, wq_8, by decide +kernel⟩, wq_766, wp_20, 7, sq_7, tq_7, 42, rfl, rfl⟩
theorem cq_M_186 : qz_Cv "ExactCurvesModel" 186 yM_isPool prog_10_method_12_code 2 (some .boolean) 1 7 1 := ⟨⟨wq_791, wq_788, wq_8, by decide +kernel⟩, wq_790, wp_21, 7, sq_7, tq_7, 42, rfl, rfl⟩
theorem cq_M_189 : qz_Cv "ExactCurvesModel" 189 yM_keepBig prog_10_method_7_code 2 none 0 7 1 := ⟨⟨wq_812, wq_809, wq_8, by decide +kernel⟩, wq_811, wp_25, 7, sq_7, tq_7, 42, rfl, rfl⟩
theorem cq_M_192 : qz_Cv "ExactCurvesModel" 192 yM_keptIsLess prog_10_method_8_code 2 (some .boolean) 0 7 1 := ⟨⟨wq_816, wq_813, wq_8, by decide +kernel⟩, wq_815, wp_26, 7, sq_7, tq_7, 42, rfl, rfl⟩
theorem cq_M_200 : qz_Cs "ExactCurvesModel" 200 yM_least prog_10_method_9_code 4 (some .long) 2 := ⟨⟨wq_829, wq_827, wq_8, by decide +kernel⟩, wq_828⟩
theorem cq_M_203 : qz_Cv "ExactCurvesModel" 203 yM_partUp prog_10_method_6_code 9 (some .long) 3 7 1 := ⟨⟨wq_833, wq_830, wq_8, by decide +kernel⟩, wq_832, wp_29, 7, sq_7, tq_7, 42, rfl, rfl⟩
theorem cq_M_196 : qz_Cv "ExactCurvesModel" 196 yM_root prog_10_method_23_code 10 (some .long) 2 7 1 := ⟨⟨wq_799, wq_796, wq_8, by decide +kernel⟩, wq_798, wp_22, 7, sq_7, tq_7, 42, rfl, rfl⟩
theorem cq_M_208 : qz_Cs "ExactCurvesModel" 208 yM_isSide prog_10_method_13_code 1 (some .boolean) 1 := ⟨⟨wq_844, wq_842, wq_8, by decide +kernel⟩, wq_843⟩
theorem cq_M_211 : qz_Cv "ExactCurvesModel" 211 yM_outOf prog_10_method_26_code 13 (some .long) 3 7 1 := ⟨⟨wq_848, wq_845, wq_8, by decide +kernel⟩, wq_847, wp_30, 7, sq_7, tq_7, 42, rfl, rfl⟩
theorem cq_M_222 : qz_Cv "ExactCurvesModel" 222 yM_tickOnce prog_10_method_30_code 2 none 0 7 1 := ⟨⟨wq_865, wq_862, wq_8, by decide +kernel⟩, wq_864, wp_31, 7, sq_7, tq_7, 42, rfl, rfl⟩
theorem cq_M_234 : qz_Cv "ExactCurvesModel" 234 yM_allAt prog_10_method_38_code 8 (some .long) 2 7 1 := ⟨⟨wq_897, wq_894, wq_8, by decide +kernel⟩, wq_896, wp_33, 7, sq_7, tq_7, 42, rfl, rfl⟩
theorem cq_M_238 : qz_Cv "ExactCurvesModel" 238 yM_bestPrice prog_10_method_39_code 19 (some .long) 0 7 1 := ⟨⟨wq_893, wq_890, wq_8, by decide +kernel⟩, wq_892, wp_32, 7, sq_7, tq_7, 42, rfl, rfl⟩
theorem cq_M_248 : qz_Cv "ExactCurvesModel" 248 yM_deal prog_10_method_40_code 12 none 3 7 1 := ⟨⟨wq_901, wq_898, wq_8, by decide +kernel⟩, wq_900, wp_34, 7, sq_7, tq_7, 42, rfl, rfl⟩
theorem cq_M_252 : qz_Cv "ExactCurvesModel" 252 yM_debtToken prog_10_method_45_code 2 (some .int) 1 7 1 := ⟨⟨wq_921, wq_918, wq_8, by decide +kernel⟩, wq_920, wp_36, 7, sq_7, tq_7, 42, rfl, rfl⟩
theorem cq_M_255 : qz_Cv "ExactCurvesModel" 255 yM_debtOf prog_10_method_46_code 2 (some .long) 1 7 1 := ⟨⟨wq_925, wq_922, wq_8, by decide +kernel⟩, wq_924, wp_37, 7, sq_7, tq_7, 42, rfl, rfl⟩
theorem cq_M_258 : qz_Cv "ExactCurvesModel" 258 yM_worthOf prog_10_method_47_code 5 (some .long) 1 7 1 := ⟨⟨wq_917, wq_914, wq_8, by decide +kernel⟩, wq_916, wp_35, 7, sq_7, tq_7, 42, rfl, rfl⟩
theorem cq_M_263 : qz_Cv "ExactCurvesModel" 263 yM_valueOf prog_10_method_51_code 7 (some .long) 3 7 1 := ⟨⟨wq_943, wq_940, wq_8, by decide +kernel⟩, wq_942, wp_38, 7, sq_7, tq_7, 42, rfl, rfl⟩
theorem cq_M_270 : qz_Cv "ExactCurvesModel" 270 yM_coverValue prog_10_method_53_code 2 (some .long) 1 7 1 := ⟨⟨wq_960, wq_957, wq_8, by decide +kernel⟩, wq_959, wp_41, 7, sq_7, tq_7, 42, rfl, rfl⟩
theorem cq_M_273 : qz_Cv "ExactCurvesModel" 273 yM_isAbove prog_10_method_52_code 9 (some .boolean) 4 7 1 := ⟨⟨wq_948, wq_945, wq_8, by decide +kernel⟩, wq_947, wp_39, 7, sq_7, tq_7, 42, rfl, rfl⟩
theorem cq_M_279 : qz_Cv "ExactCurvesModel" 279 yM_isOpen prog_10_method_56_code 2 (some .boolean) 1 7 1 := ⟨⟨wq_956, wq_953, wq_8, by decide +kernel⟩, wq_955, wp_40, 7, sq_7, tq_7, 42, rfl, rfl⟩
theorem cq_M_282 : qz_Cv "ExactCurvesModel" 282 yM_isUncovered prog_10_method_54_code 2 (some .boolean) 1 7 1 := ⟨⟨wq_964, wq_961, wq_8, by decide +kernel⟩, wq_963, wp_42, 7, sq_7, tq_7, 42, rfl, rfl⟩
theorem cq_M_287 : qz_Cv "ExactCurvesModel" 287 yM_isAlike prog_10_method_60_code 3 (some .boolean) 0 7 1 := ⟨⟨wq_978, wq_975, wq_8, by decide +kernel⟩, wq_977, wp_43, 7, sq_7, tq_7, 42, rfl, rfl⟩
theorem cq_W_15 : qz_Cv "ExactCurvesLaw" 15 yE_mint prog_1_method_2_code 5 (some .long) 3 0 1 := ⟨⟨wq_244, wq_241, wq_1, by decide +kernel⟩, wq_242, wq_243, 0, sq_0, tq_0, 8, rfl, rfl⟩
theorem cq_W_19 : qz_Cv "ExactCurvesLaw" 19 yM_mint prog_10_method_17_code 5 (some .long) 3 7 1 := ⟨⟨wq_734, wq_731, wq_8, by decide +kernel⟩, wq_732, wq_733, 7, sq_7, tq_7, 42, rfl, rfl⟩
theorem cq_W_20 : qz_Cv "ExactCurvesLaw" 20 yE_balance prog_1_method_3_code 3 (some .long) 2 0 1 := ⟨⟨wq_265, wq_262, wq_1, by decide +kernel⟩, wq_263, wq_264, 0, sq_0, tq_0, 8, rfl, rfl⟩
theorem cq_W_24 : qz_Cv "ExactCurvesLaw" 24 yM_balance prog_10_method_18_code 3 (some .long) 2 7 1 := ⟨⟨wq_771, wq_768, wq_8, by decide +kernel⟩, wq_769, wq_770, 7, sq_7, tq_7, 42, rfl, rfl⟩
theorem cq_W_25 : qz_Cv "ExactCurvesLaw" 25 yE_total prog_1_method_4_code 2 (some .long) 1 0 1 := ⟨⟨wq_269, wq_266, wq_1, by decide +kernel⟩, wq_267, wq_268, 0, sq_0, tq_0, 8, rfl, rfl⟩
theorem cq_W_29 : qz_Cv "ExactCurvesLaw" 29 yM_total prog_10_method_19_code 2 (some .long) 1 7 1 := ⟨⟨wq_775, wq_772, wq_8, by decide +kernel⟩, wq_773, wq_774, 7, sq_7, tq_7, 42, rfl, rfl⟩
theorem cq_W_30 : qz_Cv "ExactCurvesLaw" 30 yE_house prog_1_method_5_code 2 (some .long) 1 0 1 := ⟨⟨wq_273, wq_270, wq_1, by decide +kernel⟩, wq_271, wq_272, 0, sq_0, tq_0, 8, rfl, rfl⟩
theorem cq_W_33 : qz_Cv "ExactCurvesLaw" 33 yM_house prog_10_method_20_code 2 (some .long) 1 7 1 := ⟨⟨wq_779, wq_776, wq_8, by decide +kernel⟩, wq_777, wq_778, 7, sq_7, tq_7, 42, rfl, rfl⟩
theorem cq_W_34 : qz_Cv "ExactCurvesLaw" 34 yE_pool prog_1_method_6_code 6 (some .int) 4 0 1 := ⟨⟨wq_277, wq_274, wq_1, by decide +kernel⟩, wq_275, wq_276, 0, sq_0, tq_0, 8, rfl, rfl⟩
theorem cq_W_38 : qz_Cv "ExactCurvesLaw" 38 yM_pool prog_10_method_21_code 5 (some .int) 4 7 1 := ⟨⟨wq_783, wq_780, wq_8, by decide +kernel⟩, wq_781, wq_782, 7, sq_7, tq_7, 42, rfl, rfl⟩
theorem cq_W_39 : qz_Cv "ExactCurvesLaw" 39 yE_of prog_1_method_7_code 4 (some .long) 2 0 1 := ⟨⟨wq_281, wq_278, wq_1, by decide +kernel⟩, wq_279, wq_280, 0, sq_0, tq_0, 8, rfl, rfl⟩
theorem cq_W_42 : qz_Cv "ExactCurvesLaw" 42 yM_of prog_10_method_22_code 3 (some .long) 2 7 1 := ⟨⟨wq_787, wq_784, wq_8, by decide +kernel⟩, wq_785, wq_786, 7, sq_7, tq_7, 42, rfl, rfl⟩
theorem cq_W_43 : qz_Cv "ExactCurvesLaw" 43 yE_join prog_1_method_8_code 15 (some .long) 4 0 1 := ⟨⟨wq_294, wq_291, wq_1, by decide +kernel⟩, wq_292, wq_293, 0, sq_0, tq_0, 8, rfl, rfl⟩
theorem cq_W_47 : qz_Cv "ExactCurvesLaw" 47 yM_join prog_10_method_24_code 21 (some .long) 4 7 1 := ⟨⟨wq_795, wq_792, wq_8, by decide +kernel⟩, wq_793, wq_794, 7, sq_7, tq_7, 42, rfl, rfl⟩
theorem cq_W_48 : qz_Cv "ExactCurvesLaw" 48 yE_leave prog_1_method_9_code 10 (some .long) 3 0 1 := ⟨⟨wq_364, wq_361, wq_1, by decide +kernel⟩, wq_362, wq_363, 0, sq_0, tq_0, 8, rfl, rfl⟩
theorem cq_W_51 : qz_Cv "ExactCurvesLaw" 51 yM_leave prog_10_method_25_code 9 (some .long) 3 7 1 := ⟨⟨wq_837, wq_834, wq_8, by decide +kernel⟩, wq_835, wq_836, 7, sq_7, tq_7, 42, rfl, rfl⟩
theorem cq_W_52 : qz_Cv "ExactCurvesLaw" 52 yE_swap prog_1_method_10_code 9 (some .long) 4 0 1 := ⟨⟨wq_376, wq_373, wq_1, by decide +kernel⟩, wq_374, wq_375, 0, sq_0, tq_0, 8, rfl, rfl⟩
theorem cq_W_56 : qz_Cv "ExactCurvesLaw" 56 yM_swap prog_10_method_27_code 9 (some .long) 4 7 1 := ⟨⟨wq_841, wq_838, wq_8, by decide +kernel⟩, wq_839, wq_840, 7, sq_7, tq_7, 42, rfl, rfl⟩
theorem cq_W_57 : qz_Cv "ExactCurvesLaw" 57 yE_quote prog_1_method_11_code 8 (some .long) 3 0 1 := ⟨⟨wq_388, wq_385, wq_1, by decide +kernel⟩, wq_386, wq_387, 0, sq_0, tq_0, 8, rfl, rfl⟩
theorem cq_W_60 : qz_Cv "ExactCurvesLaw" 60 yM_quote prog_10_method_28_code 7 (some .long) 3 7 1 := ⟨⟨wq_853, wq_850, wq_8, by decide +kernel⟩, wq_851, wq_852, 7, sq_7, tq_7, 42, rfl, rfl⟩
theorem cq_W_61 : qz_Cv "ExactCurvesLaw" 61 yE_flash prog_1_method_12_code 12 (some .int) 6 0 1 := ⟨⟨wq_392, wq_389, wq_1, by decide +kernel⟩, wq_390, wq_391, 0, sq_0, tq_0, 8, rfl, rfl⟩
theorem cq_W_65 : qz_Cv "ExactCurvesLaw" 65 yM_flash prog_10_method_29_code 27 (some .int) 6 7 1 := ⟨⟨wq_857, wq_854, wq_8, by decide +kernel⟩, wq_855, wq_856, 7, sq_7, tq_7, 42, rfl, rfl⟩
theorem cq_W_66 : qz_Cv "ExactCurvesLaw" 66 yE_tick prog_1_method_13_code 3 (some .int) 1 0 1 := ⟨⟨wq_401, wq_398, wq_1, by decide +kernel⟩, wq_399, wq_400, 0, sq_0, tq_0, 8, rfl, rfl⟩
theorem cq_W_70 : qz_Cv "ExactCurvesLaw" 70 yM_tick prog_10_method_31_code 3 (some .int) 1 7 1 := ⟨⟨wq_861, wq_858, wq_8, by decide +kernel⟩, wq_859, wq_860, 7, sq_7, tq_7, 42, rfl, rfl⟩
theorem cq_W_71 : qz_Cv "ExactCurvesLaw" 71 yE_mark prog_1_method_14_code 5 (some .int) 2 0 1 := ⟨⟨wq_416, wq_413, wq_1, by decide +kernel⟩, wq_414, wq_415, 0, sq_0, tq_0, 8, rfl, rfl⟩
theorem cq_W_75 : qz_Cv "ExactCurvesLaw" 75 yM_mark prog_10_method_32_code 3 (some .int) 2 7 1 := ⟨⟨wq_870, wq_867, wq_8, by decide +kernel⟩, wq_868, wq_869, 7, sq_7, tq_7, 42, rfl, rfl⟩
theorem cq_W_76 : qz_Cv "ExactCurvesLaw" 76 yE_mean prog_1_method_15_code 6 (some .long) 1 0 1 := ⟨⟨wq_420, wq_417, wq_1, by decide +kernel⟩, wq_418, wq_419, 0, sq_0, tq_0, 8, rfl, rfl⟩
theorem cq_W_79 : qz_Cv "ExactCurvesLaw" 79 yM_mean prog_10_method_33_code 4 (some .long) 1 7 1 := ⟨⟨wq_874, wq_871, wq_8, by decide +kernel⟩, wq_872, wq_873, 7, sq_7, tq_7, 42, rfl, rfl⟩
theorem cq_W_80 : qz_Cv "ExactCurvesLaw" 80 yE_batch prog_1_method_16_code 3 (some .int) 2 0 1 := ⟨⟨wq_426, wq_423, wq_1, by decide +kernel⟩, wq_424, wq_425, 0, sq_0, tq_0, 8, rfl, rfl⟩
theorem cq_W_83 : qz_Cv "ExactCurvesLaw" 83 yM_batch prog_10_method_34_code 3 (some .int) 2 7 1 := ⟨⟨wq_879, wq_876, wq_8, by decide +kernel⟩, wq_877, wq_878, 7, sq_7, tq_7, 42, rfl, rfl⟩
theorem cq_W_84 : qz_Cv "ExactCurvesLaw" 84 yE_order prog_1_method_17_code 10 (some .int) 4 0 1 := ⟨⟨wq_430, wq_427, wq_1, by decide +kernel⟩, wq_428, wq_429, 0, sq_0, tq_0, 8, rfl, rfl⟩
theorem cq_W_88 : qz_Cv "ExactCurvesLaw" 88 yM_order prog_10_method_37_code 9 (some .int) 4 7 1 := ⟨⟨wq_883, wq_880, wq_8, by decide +kernel⟩, wq_881, wq_882, 7, sq_7, tq_7, 42, rfl, rfl⟩
theorem cq_W_89 : qz_Cv "ExactCurvesLaw" 89 yE_clear prog_1_method_18_code 4 (some .long) 0 0 1 := ⟨⟨wq_444, wq_441, wq_1, by decide +kernel⟩, wq_442, wq_443, 0, sq_0, tq_0, 8, rfl, rfl⟩
theorem cq_W_93 : qz_Cv "ExactCurvesLaw" 93 yM_clear prog_10_method_41_code 11 (some .long) 0 7 1 := ⟨⟨wq_889, wq_886, wq_8, by decide +kernel⟩, wq_887, wq_888, 7, sq_7, tq_7, 42, rfl, rfl⟩
theorem cq_W_94 : qz_Cv "ExactCurvesLaw" 94 yE_dealt prog_1_method_19_code 2 (some .long) 1 0 1 := ⟨⟨wq_485, wq_482, wq_1, by decide +kernel⟩, wq_483, wq_484, 0, sq_0, tq_0, 8, rfl, rfl⟩
theorem cq_W_97 : qz_Cv "ExactCurvesLaw" 97 yM_dealt prog_10_method_42_code 2 (some .long) 1 7 1 := ⟨⟨wq_905, wq_902, wq_8, by decide +kernel⟩, wq_903, wq_904, 7, sq_7, tq_7, 42, rfl, rfl⟩
theorem cq_W_98 : qz_Cv "ExactCurvesLaw" 98 yE_rate prog_1_method_20_code 6 (some .long) 2 0 1 := ⟨⟨wq_489, wq_486, wq_1, by decide +kernel⟩, wq_487, wq_488, 0, sq_0, tq_0, 8, rfl, rfl⟩
theorem cq_W_102 : qz_Cv "ExactCurvesLaw" 102 yM_rate prog_10_method_43_code 6 (some .long) 2 7 1 := ⟨⟨wq_909, wq_906, wq_8, by decide +kernel⟩, wq_907, wq_908, 7, sq_7, tq_7, 42, rfl, rfl⟩
theorem cq_W_103 : qz_Cv "ExactCurvesLaw" 103 yE_lend prog_1_method_21_code 8 (some .long) 3 0 1 := ⟨⟨wq_493, wq_490, wq_1, by decide +kernel⟩, wq_491, wq_492, 0, sq_0, tq_0, 8, rfl, rfl⟩
theorem cq_W_106 : qz_Cv "ExactCurvesLaw" 106 yM_lend prog_10_method_48_code 7 (some .long) 3 7 1 := ⟨⟨wq_913, wq_910, wq_8, by decide +kernel⟩, wq_911, wq_912, 7, sq_7, tq_7, 42, rfl, rfl⟩
theorem cq_W_107 : qz_Cv "ExactCurvesLaw" 107 yE_redeem prog_1_method_22_code 8 (some .long) 3 0 1 := ⟨⟨wq_519, wq_516, wq_1, by decide +kernel⟩, wq_517, wq_518, 0, sq_0, tq_0, 8, rfl, rfl⟩
theorem cq_W_110 : qz_Cv "ExactCurvesLaw" 110 yM_redeem prog_10_method_49_code 7 (some .long) 3 7 1 := ⟨⟨wq_929, wq_926, wq_8, by decide +kernel⟩, wq_927, wq_928, 7, sq_7, tq_7, 42, rfl, rfl⟩
theorem cq_W_111 : qz_Cv "ExactCurvesLaw" 111 yE_vault prog_1_method_23_code 3 (some .long) 2 0 1 := ⟨⟨wq_523, wq_520, wq_1, by decide +kernel⟩, wq_521, wq_522, 0, sq_0, tq_0, 8, rfl, rfl⟩
theorem cq_W_114 : qz_Cv "ExactCurvesLaw" 114 yM_vault prog_10_method_50_code 3 (some .long) 2 7 1 := ⟨⟨wq_933, wq_930, wq_8, by decide +kernel⟩, wq_931, wq_932, 7, sq_7, tq_7, 42, rfl, rfl⟩
theorem cq_W_115 : qz_Cv "ExactCurvesLaw" 115 yE_loan prog_1_method_24_code 11 (some .int) 5 0 1 := ⟨⟨wq_532, wq_529, wq_1, by decide +kernel⟩, wq_530, wq_531, 0, sq_0, tq_0, 8, rfl, rfl⟩
theorem cq_W_119 : qz_Cv "ExactCurvesLaw" 119 yM_loan prog_10_method_55_code 11 (some .int) 5 7 1 := ⟨⟨wq_937, wq_934, wq_8, by decide +kernel⟩, wq_935, wq_936, 7, sq_7, tq_7, 42, rfl, rfl⟩
theorem cq_W_120 : qz_Cv "ExactCurvesLaw" 120 yE_ofLoan prog_1_method_25_code 4 (some .long) 2 0 1 := ⟨⟨wq_555, wq_552, wq_1, by decide +kernel⟩, wq_553, wq_554, 0, sq_0, tq_0, 8, rfl, rfl⟩
theorem cq_W_123 : qz_Cv "ExactCurvesLaw" 123 yM_ofLoan prog_10_method_57_code 3 (some .long) 2 7 1 := ⟨⟨wq_952, wq_949, wq_8, by decide +kernel⟩, wq_950, wq_951, 7, sq_7, tq_7, 42, rfl, rfl⟩
theorem cq_W_124 : qz_Cv "ExactCurvesLaw" 124 yE_pay prog_1_method_26_code 11 (some .long) 3 0 1 := ⟨⟨wq_572, wq_569, wq_1, by decide +kernel⟩, wq_570, wq_571, 0, sq_0, tq_0, 8, rfl, rfl⟩
theorem cq_W_127 : qz_Cv "ExactCurvesLaw" 127 yM_pay prog_10_method_58_code 10 (some .long) 3 7 1 := ⟨⟨wq_969, wq_966, wq_8, by decide +kernel⟩, wq_967, wq_968, 7, sq_7, tq_7, 42, rfl, rfl⟩
theorem cq_W_128 : qz_Cv "ExactCurvesLaw" 128 yE_close prog_1_method_27_code 11 (some .long) 2 0 1 := ⟨⟨wq_581, wq_578, wq_1, by decide +kernel⟩, wq_579, wq_580, 0, sq_0, tq_0, 8, rfl, rfl⟩
theorem cq_W_131 : qz_Cv "ExactCurvesLaw" 131 yM_close prog_10_method_59_code 17 (some .long) 2 7 1 := ⟨⟨wq_973, wq_970, wq_8, by decide +kernel⟩, wq_971, wq_972, 7, sq_7, tq_7, 42, rfl, rfl⟩
theorem cq_W_132 : qz_Cv "ExactCurvesLaw" 132 yE_count prog_1_method_28_code 2 (some .int) 1 0 1 := ⟨⟨wq_592, wq_589, wq_1, by decide +kernel⟩, wq_590, wq_591, 0, sq_0, tq_0, 8, rfl, rfl⟩
theorem cq_W_135 : qz_Cv "ExactCurvesLaw" 135 yM_count prog_10_method_61_code 4 (some .int) 1 7 1 := ⟨⟨wq_982, wq_979, wq_8, by decide +kernel⟩, wq_980, wq_981, 7, sq_7, tq_7, 42, rfl, rfl⟩
