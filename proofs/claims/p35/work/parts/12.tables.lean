/-! ===== printed: words by their places; classes; methods ===== -/
theorem lw_gs {ws : List Cond} (ps : List Nat) (hp : ws = ps.filterMap (fun i => lw_tbl[i]?)) (h : ws.all goodWord = true) : ∀ w ∈ ws, w ∈ lw_good := fun w hw => List.mem_filter.mpr ⟨(goodIn_r ws ps hp h w hw).1, List.all_eq_true.mp h w hw⟩

theorem w_20 : Jvm.Cond.initialized "ProratehouseLaw" ∈ lw_good := lw_g 20 (by decide +kernel) (by decide +kernel)
theorem w_21 : Jvm.Cond.initialized "Proratehouse" ∈ lw_good := lw_g 21 (by decide +kernel) (by decide +kernel)
theorem w_22 : Jvm.Cond.initialized "Proratehouse$Tariff" ∈ lw_good := lw_g 22 (by decide +kernel) (by decide +kernel)
theorem w_23 : Jvm.Cond.initialized "Proratehouse$Pairs" ∈ lw_good := lw_g 23 (by decide +kernel) (by decide +kernel)
theorem w_24 : Jvm.Cond.initialized "Proratehouse$Proration" ∈ lw_good := lw_g 24 (by decide +kernel) (by decide +kernel)
theorem w_25 : Jvm.Cond.initialized "Proratehouse$Journey" ∈ lw_good := lw_g 25 (by decide +kernel) (by decide +kernel)
theorem w_26 : Jvm.Cond.initialized "Proratehouse$Leg" ∈ lw_good := lw_g 26 (by decide +kernel) (by decide +kernel)
theorem w_27 : Jvm.Cond.initialized "Proratehouse$Ways" ∈ lw_good := lw_g 27 (by decide +kernel) (by decide +kernel)
theorem w_28 : Jvm.Cond.initialized "Proratehouse$Clearing" ∈ lw_good := lw_g 28 (by decide +kernel) (by decide +kernel)
theorem w_29 : Jvm.Cond.initialized "java/lang/Throwable" ∈ lw_good := lw_g 29 (by decide +kernel) (by decide +kernel)
theorem w_30 : Jvm.Cond.initialized "java/lang/Exception" ∈ lw_good := lw_g 30 (by decide +kernel) (by decide +kernel)
theorem w_31 : Jvm.Cond.initialized "java/lang/RuntimeException" ∈ lw_good := lw_g 31 (by decide +kernel) (by decide +kernel)
theorem w_32 : Jvm.Cond.initialized "java/lang/IndexOutOfBoundsException" ∈ lw_good := lw_g 32 (by decide +kernel) (by decide +kernel)
theorem w_33 : Jvm.Cond.initialized "java/lang/IllegalArgumentException" ∈ lw_good := lw_g 33 (by decide +kernel) (by decide +kernel)
theorem w_34 : Jvm.Cond.initialized "java/lang/IllegalStateException" ∈ lw_good := lw_g 34 (by decide +kernel) (by decide +kernel)
theorem w_35 : Jvm.Cond.initialized "Proratehouse$Fare" ∈ lw_good := lw_g 35 (by decide +kernel) (by decide +kernel)
theorem w_36 : Jvm.Cond.initialized "java/lang/Math" ∈ lw_good := lw_g 36 (by decide +kernel) (by decide +kernel)
theorem w_37 : Jvm.Cond.initialized "Proratehouse$Ticket" ∈ lw_good := lw_g 37 (by decide +kernel) (by decide +kernel)
theorem w_38 : Jvm.Cond.initialized "Proratehouse$Coupon" ∈ lw_good := lw_g 38 (by decide +kernel) (by decide +kernel)
theorem w_39 : Jvm.Cond.initialized "Proratehouse$Bill" ∈ lw_good := lw_g 39 (by decide +kernel) (by decide +kernel)
theorem w_40 : Jvm.Cond.classLink "ProratehouseLaw" (11 : Nat) "Proratehouse" ∈ lw_good := lw_g 40 (by decide +kernel) (by decide +kernel)
theorem w_41 : Jvm.Cond.instantiable "Proratehouse" (11 : Nat) ∈ lw_good := lw_g 41 (by decide +kernel) (by decide +kernel)
theorem w_42 : Jvm.Cond.methodLink "ProratehouseLaw" (221 : Nat) ({ cls := "Proratehouse", name := "<init>", desc := "()V" } : Jvm.MethodName) ∈ lw_good := lw_g 42 (by decide +kernel) (by decide +kernel)
theorem w_43 : Jvm.Cond.instanceMethod ({ cls := "Proratehouse", name := "<init>", desc := "()V" } : Jvm.MethodName) ∈ lw_good := lw_g 43 (by decide +kernel) (by decide +kernel)
theorem w_44 : Jvm.Cond.code ({ cls := "Proratehouse", name := "<init>", desc := "()V" } : Jvm.MethodName) prog_1_method_1_code (1 : Nat) (Option.none : Option Jvm.ClassFile.FieldType) ∈ lw_good := lw_g 44 (by decide +kernel) (by decide +kernel)
theorem w_45 : Jvm.Cond.methodLink "Proratehouse" (3 : Nat) ({ cls := "java/lang/Object", name := "<init>", desc := "()V" } : Jvm.MethodName) ∈ lw_good := lw_g 45 (by decide +kernel) (by decide +kernel)
theorem w_46 : Jvm.Cond.instanceMethod ({ cls := "java/lang/Object", name := "<init>", desc := "()V" } : Jvm.MethodName) ∈ lw_good := lw_g 46 (by decide +kernel) (by decide +kernel)
theorem w_47 : Jvm.Cond.code ({ cls := "java/lang/Object", name := "<init>", desc := "()V" } : Jvm.MethodName) object_method_1_code (1 : Nat) (Option.none : Option Jvm.ClassFile.FieldType) ∈ lw_good := lw_g 47 (by decide +kernel) (by decide +kernel)
theorem w_48 : Jvm.Cond.classLink "Proratehouse" (9 : Nat) "Proratehouse$Tariff" ∈ lw_good := lw_g 48 (by decide +kernel) (by decide +kernel)
theorem w_49 : Jvm.Cond.instantiable "Proratehouse$Tariff" (7 : Nat) ∈ lw_good := lw_g 49 (by decide +kernel) (by decide +kernel)
theorem w_51 : Jvm.Cond.instanceMethod ({ cls := "Proratehouse$Tariff", name := "<init>", desc := "()V" } : Jvm.MethodName) ∈ lw_good := lw_g 51 (by decide +kernel) (by decide +kernel)
theorem w_52 : Jvm.Cond.code ({ cls := "Proratehouse$Tariff", name := "<init>", desc := "()V" } : Jvm.MethodName) prog_10_method_1_code (1 : Nat) (Option.none : Option Jvm.ClassFile.FieldType) ∈ lw_good := lw_g 52 (by decide +kernel) (by decide +kernel)
theorem w_53 : Jvm.Cond.methodLink "Proratehouse$Tariff" (3 : Nat) ({ cls := "java/lang/Object", name := "<init>", desc := "()V" } : Jvm.MethodName) ∈ lw_good := lw_g 53 (by decide +kernel) (by decide +kernel)
theorem w_54 : Jvm.Cond.classLink "Proratehouse$Tariff" (9 : Nat) "Proratehouse$Pairs" ∈ lw_good := lw_g 54 (by decide +kernel) (by decide +kernel)
theorem w_55 : Jvm.Cond.instantiable "Proratehouse$Pairs" (1 : Nat) ∈ lw_good := lw_g 55 (by decide +kernel) (by decide +kernel)
theorem w_57 : Jvm.Cond.instanceMethod ({ cls := "Proratehouse$Pairs", name := "<init>", desc := "()V" } : Jvm.MethodName) ∈ lw_good := lw_g 57 (by decide +kernel) (by decide +kernel)
theorem w_58 : Jvm.Cond.code ({ cls := "Proratehouse$Pairs", name := "<init>", desc := "()V" } : Jvm.MethodName) prog_8_method_1_code (1 : Nat) (Option.none : Option Jvm.ClassFile.FieldType) ∈ lw_good := lw_g 58 (by decide +kernel) (by decide +kernel)
theorem w_59 : Jvm.Cond.methodLink "Proratehouse$Pairs" (3 : Nat) ({ cls := "java/lang/Object", name := "<init>", desc := "()V" } : Jvm.MethodName) ∈ lw_good := lw_g 59 (by decide +kernel) (by decide +kernel)
theorem w_60 : Jvm.Cond.fieldLink "Proratehouse$Pairs" (9 : Nat) "Proratehouse$Pairs" "numbers" "[I" ∈ lw_good := lw_g 60 (by decide +kernel) (by decide +kernel)
theorem w_64 : Jvm.Cond.arrayClass Jvm.ClassFile.FieldType.int ∈ lw_good := lw_g 64 (by decide +kernel) (by decide +kernel)
theorem w_65 : Jvm.Cond.classLink "Proratehouse$Tariff" (18 : Nat) "Proratehouse$Fare" ∈ lw_good := lw_g 65 (by decide +kernel) (by decide +kernel)
theorem w_67 : Jvm.Cond.fieldLink "Proratehouse$Tariff" (12 : Nat) "Proratehouse$Tariff" "miles" "LProratehouse$Pairs;" ∈ lw_good := lw_g 67 (by decide +kernel) (by decide +kernel)
theorem w_68 : Jvm.Cond.fieldLink "Proratehouse" (77 : Nat) "Proratehouse$Tariff" "miles" "LProratehouse$Pairs;" ∈ lw_good := lw_g 68 (by decide +kernel) (by decide +kernel)
theorem w_69 : Jvm.Cond.fieldLink "Proratehouse$Journey" (56 : Nat) "Proratehouse$Tariff" "miles" "LProratehouse$Pairs;" ∈ lw_good := lw_g 69 (by decide +kernel) (by decide +kernel)
theorem w_70 : Jvm.Cond.fieldLink "Proratehouse$Tariff" (20 : Nat) "Proratehouse$Tariff" "fares" "[LProratehouse$Fare;" ∈ lw_good := lw_g 70 (by decide +kernel) (by decide +kernel)
theorem w_71 : Jvm.Cond.fieldLink "Proratehouse$Tariff" (24 : Nat) "Proratehouse$Tariff" "departTaxes" "[I" ∈ lw_good := lw_g 71 (by decide +kernel) (by decide +kernel)
theorem w_72 : Jvm.Cond.fieldLink "Proratehouse$Tariff" (28 : Nat) "Proratehouse$Tariff" "changeTaxes" "[I" ∈ lw_good := lw_g 72 (by decide +kernel) (by decide +kernel)
theorem w_73 : Jvm.Cond.fieldLink "Proratehouse$Tariff" (35 : Nat) "Proratehouse$Tariff" "fareCount" "I" ∈ lw_good := lw_g 73 (by decide +kernel) (by decide +kernel)
theorem w_74 : Jvm.Cond.fieldLink "Proratehouse" (90 : Nat) "Proratehouse$Tariff" "fareCount" "I" ∈ lw_good := lw_g 74 (by decide +kernel) (by decide +kernel)
theorem w_75 : Jvm.Cond.fieldLink "Proratehouse$Tariff" (31 : Nat) "Proratehouse$Tariff" "unit" "I" ∈ lw_good := lw_g 75 (by decide +kernel) (by decide +kernel)
theorem w_76 : Jvm.Cond.fieldLink "Proratehouse" (122 : Nat) "Proratehouse$Tariff" "unit" "I" ∈ lw_good := lw_g 76 (by decide +kernel) (by decide +kernel)
theorem w_77 : Jvm.Cond.fieldLink "Proratehouse$Tariff" (46 : Nat) "Proratehouse$Tariff" "today" "I" ∈ lw_good := lw_g 77 (by decide +kernel) (by decide +kernel)
theorem w_78 : Jvm.Cond.fieldLink "Proratehouse" (154 : Nat) "Proratehouse$Tariff" "today" "I" ∈ lw_good := lw_g 78 (by decide +kernel) (by decide +kernel)
theorem w_94 : Jvm.Cond.classLink "Proratehouse" (16 : Nat) "Proratehouse$Proration" ∈ lw_good := lw_g 94 (by decide +kernel) (by decide +kernel)
theorem w_95 : Jvm.Cond.instantiable "Proratehouse$Proration" (2 : Nat) ∈ lw_good := lw_g 95 (by decide +kernel) (by decide +kernel)
theorem w_96 : Jvm.Cond.methodLink "Proratehouse" (18 : Nat) ({ cls := "Proratehouse$Proration", name := "<init>", desc := "()V" } : Jvm.MethodName) ∈ lw_good := lw_g 96 (by decide +kernel) (by decide +kernel)
theorem w_97 : Jvm.Cond.instanceMethod ({ cls := "Proratehouse$Proration", name := "<init>", desc := "()V" } : Jvm.MethodName) ∈ lw_good := lw_g 97 (by decide +kernel) (by decide +kernel)
theorem w_98 : Jvm.Cond.code ({ cls := "Proratehouse$Proration", name := "<init>", desc := "()V" } : Jvm.MethodName) prog_9_method_1_code (2 : Nat) (Option.none : Option Jvm.ClassFile.FieldType) ∈ lw_good := lw_g 98 (by decide +kernel) (by decide +kernel)
theorem w_99 : Jvm.Cond.methodLink "Proratehouse$Proration" (3 : Nat) ({ cls := "java/lang/Object", name := "<init>", desc := "()V" } : Jvm.MethodName) ∈ lw_good := lw_g 99 (by decide +kernel) (by decide +kernel)
theorem w_100 : Jvm.Cond.classLink "Proratehouse$Proration" (9 : Nat) "Proratehouse$Pairs" ∈ lw_good := lw_g 100 (by decide +kernel) (by decide +kernel)
theorem w_102 : Jvm.Cond.fieldLink "Proratehouse$Proration" (12 : Nat) "Proratehouse$Proration" "weights" "LProratehouse$Pairs;" ∈ lw_good := lw_g 102 (by decide +kernel) (by decide +kernel)
theorem w_103 : Jvm.Cond.fieldLink "Proratehouse" (133 : Nat) "Proratehouse$Proration" "weights" "LProratehouse$Pairs;" ∈ lw_good := lw_g 103 (by decide +kernel) (by decide +kernel)
theorem w_104 : Jvm.Cond.fieldLink "Proratehouse$Proration" (18 : Nat) "Proratehouse$Proration" "provisos" "[I" ∈ lw_good := lw_g 104 (by decide +kernel) (by decide +kernel)
theorem w_110 : Jvm.Cond.classLink "Proratehouse" (23 : Nat) "Proratehouse$Journey" ∈ lw_good := lw_g 110 (by decide +kernel) (by decide +kernel)
theorem w_111 : Jvm.Cond.instantiable "Proratehouse$Journey" (2 : Nat) ∈ lw_good := lw_g 111 (by decide +kernel) (by decide +kernel)
theorem w_112 : Jvm.Cond.methodLink "Proratehouse" (25 : Nat) ({ cls := "Proratehouse$Journey", name := "<init>", desc := "()V" } : Jvm.MethodName) ∈ lw_good := lw_g 112 (by decide +kernel) (by decide +kernel)
theorem w_113 : Jvm.Cond.instanceMethod ({ cls := "Proratehouse$Journey", name := "<init>", desc := "()V" } : Jvm.MethodName) ∈ lw_good := lw_g 113 (by decide +kernel) (by decide +kernel)
theorem w_114 : Jvm.Cond.code ({ cls := "Proratehouse$Journey", name := "<init>", desc := "()V" } : Jvm.MethodName) prog_6_method_1_code (2 : Nat) (Option.none : Option Jvm.ClassFile.FieldType) ∈ lw_good := lw_g 114 (by decide +kernel) (by decide +kernel)
theorem w_115 : Jvm.Cond.methodLink "Proratehouse$Journey" (3 : Nat) ({ cls := "java/lang/Object", name := "<init>", desc := "()V" } : Jvm.MethodName) ∈ lw_good := lw_g 115 (by decide +kernel) (by decide +kernel)
theorem w_116 : Jvm.Cond.classLink "Proratehouse$Journey" (9 : Nat) "Proratehouse$Leg" ∈ lw_good := lw_g 116 (by decide +kernel) (by decide +kernel)
theorem w_118 : Jvm.Cond.instantiable "Proratehouse$Leg" (4 : Nat) ∈ lw_good := lw_g 118 (by decide +kernel) (by decide +kernel)
theorem w_120 : Jvm.Cond.instanceMethod ({ cls := "Proratehouse$Leg", name := "<init>", desc := "()V" } : Jvm.MethodName) ∈ lw_good := lw_g 120 (by decide +kernel) (by decide +kernel)
theorem w_121 : Jvm.Cond.code ({ cls := "Proratehouse$Leg", name := "<init>", desc := "()V" } : Jvm.MethodName) prog_7_method_1_code (1 : Nat) (Option.none : Option Jvm.ClassFile.FieldType) ∈ lw_good := lw_g 121 (by decide +kernel) (by decide +kernel)
theorem w_122 : Jvm.Cond.methodLink "Proratehouse$Leg" (1 : Nat) ({ cls := "java/lang/Object", name := "<init>", desc := "()V" } : Jvm.MethodName) ∈ lw_good := lw_g 122 (by decide +kernel) (by decide +kernel)
theorem w_123 : Jvm.Cond.fieldLink "Proratehouse$Coupon" (18 : Nat) "Proratehouse$Leg" "from" "I" ∈ lw_good := lw_g 123 (by decide +kernel) (by decide +kernel)
theorem w_124 : Jvm.Cond.fieldLink "Proratehouse$Journey" (32 : Nat) "Proratehouse$Leg" "from" "I" ∈ lw_good := lw_g 124 (by decide +kernel) (by decide +kernel)
theorem w_125 : Jvm.Cond.fieldLink "Proratehouse" (390 : Nat) "Proratehouse$Leg" "from" "I" ∈ lw_good := lw_g 125 (by decide +kernel) (by decide +kernel)
theorem w_126 : Jvm.Cond.fieldLink "Proratehouse$Coupon" (24 : Nat) "Proratehouse$Leg" "to" "I" ∈ lw_good := lw_g 126 (by decide +kernel) (by decide +kernel)
theorem w_127 : Jvm.Cond.fieldLink "Proratehouse$Journey" (26 : Nat) "Proratehouse$Leg" "to" "I" ∈ lw_good := lw_g 127 (by decide +kernel) (by decide +kernel)
theorem w_128 : Jvm.Cond.fieldLink "Proratehouse$Coupon" (32 : Nat) "Proratehouse$Leg" "carrier" "I" ∈ lw_good := lw_g 128 (by decide +kernel) (by decide +kernel)
theorem w_129 : Jvm.Cond.fieldLink "Proratehouse$Journey" (35 : Nat) "Proratehouse$Leg" "carrier" "I" ∈ lw_good := lw_g 129 (by decide +kernel) (by decide +kernel)
theorem w_130 : Jvm.Cond.fieldLink "Proratehouse$Coupon" (28 : Nat) "Proratehouse$Leg" "day" "I" ∈ lw_good := lw_g 130 (by decide +kernel) (by decide +kernel)
theorem w_131 : Jvm.Cond.fieldLink "Proratehouse$Journey" (29 : Nat) "Proratehouse$Leg" "day" "I" ∈ lw_good := lw_g 131 (by decide +kernel) (by decide +kernel)
theorem w_141 : Jvm.Cond.fieldLink "Proratehouse$Journey" (11 : Nat) "Proratehouse$Journey" "legs" "[LProratehouse$Leg;" ∈ lw_good := lw_g 141 (by decide +kernel) (by decide +kernel)
theorem w_142 : Jvm.Cond.fieldLink "Proratehouse$Journey" (18 : Nat) "Proratehouse$Journey" "count" "I" ∈ lw_good := lw_g 142 (by decide +kernel) (by decide +kernel)
theorem w_143 : Jvm.Cond.fieldLink "Proratehouse$Ways" (28 : Nat) "Proratehouse$Journey" "count" "I" ∈ lw_good := lw_g 143 (by decide +kernel) (by decide +kernel)
theorem w_144 : Jvm.Cond.fieldLink "Proratehouse" (376 : Nat) "Proratehouse$Journey" "count" "I" ∈ lw_good := lw_g 144 (by decide +kernel) (by decide +kernel)
theorem w_150 : Jvm.Cond.classLink "Proratehouse" (30 : Nat) "Proratehouse$Ways" ∈ lw_good := lw_g 150 (by decide +kernel) (by decide +kernel)
theorem w_151 : Jvm.Cond.instantiable "Proratehouse$Ways" (5 : Nat) ∈ lw_good := lw_g 151 (by decide +kernel) (by decide +kernel)
theorem w_153 : Jvm.Cond.instanceMethod ({ cls := "Proratehouse$Ways", name := "<init>", desc := "()V" } : Jvm.MethodName) ∈ lw_good := lw_g 153 (by decide +kernel) (by decide +kernel)
theorem w_154 : Jvm.Cond.code ({ cls := "Proratehouse$Ways", name := "<init>", desc := "()V" } : Jvm.MethodName) prog_12_method_1_code (1 : Nat) (Option.none : Option Jvm.ClassFile.FieldType) ∈ lw_good := lw_g 154 (by decide +kernel) (by decide +kernel)
theorem w_155 : Jvm.Cond.methodLink "Proratehouse$Ways" (3 : Nat) ({ cls := "java/lang/Object", name := "<init>", desc := "()V" } : Jvm.MethodName) ∈ lw_good := lw_g 155 (by decide +kernel) (by decide +kernel)
theorem w_156 : Jvm.Cond.fieldLink "Proratehouse$Ways" (9 : Nat) "Proratehouse$Ways" "sumsTo" "[I" ∈ lw_good := lw_g 156 (by decide +kernel) (by decide +kernel)
theorem w_157 : Jvm.Cond.fieldLink "Proratehouse$Ways" (15 : Nat) "Proratehouse$Ways" "cutsTo" "[I" ∈ lw_good := lw_g 157 (by decide +kernel) (by decide +kernel)
theorem w_158 : Jvm.Cond.fieldLink "Proratehouse$Ways" (18 : Nat) "Proratehouse$Ways" "partPrices" "[I" ∈ lw_good := lw_g 158 (by decide +kernel) (by decide +kernel)
theorem w_159 : Jvm.Cond.fieldLink "Proratehouse$Ways" (21 : Nat) "Proratehouse$Ways" "leastSum" "I" ∈ lw_good := lw_g 159 (by decide +kernel) (by decide +kernel)
theorem w_160 : Jvm.Cond.fieldLink "Proratehouse" (191 : Nat) "Proratehouse$Ways" "leastSum" "I" ∈ lw_good := lw_g 160 (by decide +kernel) (by decide +kernel)
theorem w_161 : Jvm.Cond.fieldLink "Proratehouse$Ways" (25 : Nat) "Proratehouse$Ways" "leastCuts" "I" ∈ lw_good := lw_g 161 (by decide +kernel) (by decide +kernel)
theorem w_162 : Jvm.Cond.fieldLink "Proratehouse" (198 : Nat) "Proratehouse$Ways" "leastCuts" "I" ∈ lw_good := lw_g 162 (by decide +kernel) (by decide +kernel)
theorem w_174 : Jvm.Cond.classLink "Proratehouse" (37 : Nat) "Proratehouse$Clearing" ∈ lw_good := lw_g 174 (by decide +kernel) (by decide +kernel)
theorem w_175 : Jvm.Cond.instantiable "Proratehouse$Clearing" (5 : Nat) ∈ lw_good := lw_g 175 (by decide +kernel) (by decide +kernel)
theorem w_177 : Jvm.Cond.instanceMethod ({ cls := "Proratehouse$Clearing", name := "<init>", desc := "()V" } : Jvm.MethodName) ∈ lw_good := lw_g 177 (by decide +kernel) (by decide +kernel)
theorem w_178 : Jvm.Cond.code ({ cls := "Proratehouse$Clearing", name := "<init>", desc := "()V" } : Jvm.MethodName) prog_3_method_1_code (1 : Nat) (Option.none : Option Jvm.ClassFile.FieldType) ∈ lw_good := lw_g 178 (by decide +kernel) (by decide +kernel)
theorem w_179 : Jvm.Cond.methodLink "Proratehouse$Clearing" (3 : Nat) ({ cls := "java/lang/Object", name := "<init>", desc := "()V" } : Jvm.MethodName) ∈ lw_good := lw_g 179 (by decide +kernel) (by decide +kernel)
theorem w_180 : Jvm.Cond.classLink "Proratehouse$Clearing" (9 : Nat) "Proratehouse$Bill" ∈ lw_good := lw_g 180 (by decide +kernel) (by decide +kernel)
theorem w_182 : Jvm.Cond.fieldLink "Proratehouse$Clearing" (11 : Nat) "Proratehouse$Clearing" "bills" "[LProratehouse$Bill;" ∈ lw_good := lw_g 182 (by decide +kernel) (by decide +kernel)
theorem w_183 : Jvm.Cond.fieldLink "Proratehouse$Clearing" (17 : Nat) "Proratehouse$Clearing" "nets" "[J" ∈ lw_good := lw_g 183 (by decide +kernel) (by decide +kernel)
theorem w_184 : Jvm.Cond.fieldLink "Proratehouse$Clearing" (21 : Nat) "Proratehouse$Clearing" "count" "I" ∈ lw_good := lw_g 184 (by decide +kernel) (by decide +kernel)
theorem w_185 : Jvm.Cond.fieldLink "Proratehouse" (377 : Nat) "Proratehouse$Clearing" "count" "I" ∈ lw_good := lw_g 185 (by decide +kernel) (by decide +kernel)
theorem w_186 : Jvm.Cond.fieldLink "Proratehouse$Clearing" (38 : Nat) "Proratehouse$Clearing" "number" "I" ∈ lw_good := lw_g 186 (by decide +kernel) (by decide +kernel)
theorem w_187 : Jvm.Cond.fieldLink "Proratehouse" (324 : Nat) "Proratehouse$Clearing" "number" "I" ∈ lw_good := lw_g 187 (by decide +kernel) (by decide +kernel)
theorem w_188 : Jvm.Cond.fieldLink "Proratehouse$Clearing" (32 : Nat) "Proratehouse$Clearing" "inDefault" "I" ∈ lw_good := lw_g 188 (by decide +kernel) (by decide +kernel)
theorem w_189 : Jvm.Cond.fieldLink "Proratehouse" (378 : Nat) "Proratehouse$Clearing" "inDefault" "I" ∈ lw_good := lw_g 189 (by decide +kernel) (by decide +kernel)
theorem w_201 : Jvm.Cond.arrayClass Jvm.ClassFile.FieldType.long ∈ lw_good := lw_g 201 (by decide +kernel) (by decide +kernel)
theorem w_202 : Jvm.Cond.classLink "Proratehouse" (44 : Nat) "Proratehouse$Ticket" ∈ lw_good := lw_g 202 (by decide +kernel) (by decide +kernel)
theorem w_204 : Jvm.Cond.fieldLink "Proratehouse" (12 : Nat) "Proratehouse" "tariff" "LProratehouse$Tariff;" ∈ lw_good := lw_g 204 (by decide +kernel) (by decide +kernel)
theorem w_205 : Jvm.Cond.fieldLink "Proratehouse" (19 : Nat) "Proratehouse" "proration" "LProratehouse$Proration;" ∈ lw_good := lw_g 205 (by decide +kernel) (by decide +kernel)
theorem w_206 : Jvm.Cond.fieldLink "Proratehouse" (26 : Nat) "Proratehouse" "journey" "LProratehouse$Journey;" ∈ lw_good := lw_g 206 (by decide +kernel) (by decide +kernel)
theorem w_207 : Jvm.Cond.fieldLink "Proratehouse" (33 : Nat) "Proratehouse" "ways" "LProratehouse$Ways;" ∈ lw_good := lw_g 207 (by decide +kernel) (by decide +kernel)
theorem w_208 : Jvm.Cond.fieldLink "Proratehouse" (40 : Nat) "Proratehouse" "clearing" "LProratehouse$Clearing;" ∈ lw_good := lw_g 208 (by decide +kernel) (by decide +kernel)
theorem w_209 : Jvm.Cond.fieldLink "Proratehouse" (46 : Nat) "Proratehouse" "tickets" "[LProratehouse$Ticket;" ∈ lw_good := lw_g 209 (by decide +kernel) (by decide +kernel)
theorem w_210 : Jvm.Cond.fieldLink "Proratehouse" (50 : Nat) "Proratehouse" "carrierCash" "[J" ∈ lw_good := lw_g 210 (by decide +kernel) (by decide +kernel)
theorem w_211 : Jvm.Cond.fieldLink "Proratehouse" (54 : Nat) "Proratehouse" "stateCash" "[J" ∈ lw_good := lw_g 211 (by decide +kernel) (by decide +kernel)
theorem w_212 : Jvm.Cond.fieldLink "Proratehouse" (223 : Nat) "Proratehouse" "ticketCount" "I" ∈ lw_good := lw_g 212 (by decide +kernel) (by decide +kernel)
theorem w_213 : Jvm.Cond.fieldLink "Proratehouse" (149 : Nat) "Proratehouse" "penaltyHundredths" "I" ∈ lw_good := lw_g 213 (by decide +kernel) (by decide +kernel)
theorem w_214 : Jvm.Cond.fieldLink "Proratehouse" (373 : Nat) "Proratehouse" "buyersPaid" "J" ∈ lw_good := lw_g 214 (by decide +kernel) (by decide +kernel)
theorem w_238 : Jvm.Cond.methodLink "ProratehouseLaw" (222 : Nat) ({ cls := "ProratehouseLaw", name := "at", desc := "([II)I" } : Jvm.MethodName) ∈ lw_good := lw_g 238 (by decide +kernel) (by decide +kernel)
theorem w_239 : Jvm.Cond.static ({ cls := "ProratehouseLaw", name := "at", desc := "([II)I" } : Jvm.MethodName) ∈ lw_good := lw_g 239 (by decide +kernel) (by decide +kernel)
theorem w_240 : Jvm.Cond.code ({ cls := "ProratehouseLaw", name := "at", desc := "([II)I" } : Jvm.MethodName) method_2_code (2 : Nat) (Option.some Jvm.ClassFile.FieldType.int) ∈ lw_good := lw_g 240 (by decide +kernel) (by decide +kernel)
theorem w_241 : Jvm.Cond.constant "ProratehouseLaw" (7 : Nat) (1944573377 : Int32) ∈ lw_good := lw_g 241 (by decide +kernel) (by decide +kernel)
theorem w_242 : Jvm.Cond.constant "ProratehouseLaw" (8 : Nat) (1035975139 : Int32) ∈ lw_good := lw_g 242 (by decide +kernel) (by decide +kernel)
theorem w_243 : Jvm.Cond.methodLink "ProratehouseLaw" (151 : Nat) ({ cls := "ProratehouseLaw", name := "miles", desc := "(LProratehouse;III)I" } : Jvm.MethodName) ∈ lw_good := lw_g 243 (by decide +kernel) (by decide +kernel)
theorem w_244 : Jvm.Cond.static ({ cls := "ProratehouseLaw", name := "miles", desc := "(LProratehouse;III)I" } : Jvm.MethodName) ∈ lw_good := lw_g 244 (by decide +kernel) (by decide +kernel)
theorem w_245 : Jvm.Cond.codeWith ({ cls := "ProratehouseLaw", name := "miles", desc := "(LProratehouse;III)I" } : Jvm.MethodName) method_4_code (5 : Nat) (Option.some Jvm.ClassFile.FieldType.int) [((0 : Nat), (7 : Nat), (8 : Nat), (16 : Nat)), ((0 : Nat), (7 : Nat), (13 : Nat), (19 : Nat))] ∈ lw_good := lw_g 245 (by decide +kernel) (by decide +kernel)
theorem w_246 : Jvm.Cond.classLink "ProratehouseLaw" (16 : Nat) "java/lang/IndexOutOfBoundsException" ∈ lw_good := lw_g 246 (by decide +kernel) (by decide +kernel)
theorem w_247 : Jvm.Cond.classLink "ProratehouseLaw" (19 : Nat) "java/lang/IllegalArgumentException" ∈ lw_good := lw_g 247 (by decide +kernel) (by decide +kernel)
theorem w_248 : Jvm.Cond.methodLink "ProratehouseLaw" (10 : Nat) ({ cls := "Proratehouse", name := "miles", desc := "(III)I" } : Jvm.MethodName) ∈ lw_good := lw_g 248 (by decide +kernel) (by decide +kernel)
theorem w_249 : Jvm.Cond.instanceMethod ({ cls := "Proratehouse", name := "miles", desc := "(III)I" } : Jvm.MethodName) ∈ lw_good := lw_g 249 (by decide +kernel) (by decide +kernel)
theorem w_250 : Jvm.Cond.selects "Proratehouse" ({ cls := "Proratehouse", name := "miles", desc := "(III)I" } : Jvm.MethodName) ({ cls := "Proratehouse", name := "miles", desc := "(III)I" } : Jvm.MethodName) ∈ lw_good := lw_g 250 (by decide +kernel) (by decide +kernel)
theorem w_251 : Jvm.Cond.code ({ cls := "Proratehouse", name := "miles", desc := "(III)I" } : Jvm.MethodName) prog_1_method_2_code (4 : Nat) (Option.some Jvm.ClassFile.FieldType.int) ∈ lw_good := lw_g 251 (by decide +kernel) (by decide +kernel)
theorem w_252 : Jvm.Cond.methodLink "Proratehouse" (57 : Nat) ({ cls := "Proratehouse", name := "isPlace", desc := "(I)Z" } : Jvm.MethodName) ∈ lw_good := lw_g 252 (by decide +kernel) (by decide +kernel)
theorem w_253 : Jvm.Cond.static ({ cls := "Proratehouse", name := "isPlace", desc := "(I)Z" } : Jvm.MethodName) ∈ lw_good := lw_g 253 (by decide +kernel) (by decide +kernel)
theorem w_254 : Jvm.Cond.code ({ cls := "Proratehouse", name := "isPlace", desc := "(I)Z" } : Jvm.MethodName) prog_1_method_35_code (1 : Nat) (Option.some Jvm.ClassFile.FieldType.boolean) ∈ lw_good := lw_g 254 (by decide +kernel) (by decide +kernel)
theorem w_255 : Jvm.Cond.classLink "Proratehouse" (61 : Nat) "java/lang/IndexOutOfBoundsException" ∈ lw_good := lw_g 255 (by decide +kernel) (by decide +kernel)
theorem w_256 : Jvm.Cond.instantiable "java/lang/IndexOutOfBoundsException" (6 : Nat) ∈ lw_good := lw_g 256 (by decide +kernel) (by decide +kernel)
theorem w_264 : Jvm.Cond.selects "java/lang/IndexOutOfBoundsException" ({ cls := "java/lang/Throwable", name := "fillInStackTrace", desc := "(I)Ljava/lang/Throwable;" } : Jvm.MethodName) ({ cls := "java/lang/Throwable", name := "fillInStackTrace", desc := "(I)Ljava/lang/Throwable;" } : Jvm.MethodName) ∈ lw_good := lw_g 264 (by decide +kernel) (by decide +kernel)
theorem w_265 : Jvm.Cond.selects "java/lang/IndexOutOfBoundsException" ({ cls := "java/lang/Throwable", name := "fillInStackTrace", desc := "()Ljava/lang/Throwable;" } : Jvm.MethodName) ({ cls := "java/lang/Throwable", name := "fillInStackTrace", desc := "()Ljava/lang/Throwable;" } : Jvm.MethodName) ∈ lw_good := lw_g 265 (by decide +kernel) (by decide +kernel)
theorem w_276 : Jvm.Cond.fieldLink "java/lang/Throwable" (198 : Nat) "java/lang/Throwable" "backtrace" "Ljava/lang/Object;" ∈ lw_good := lw_g 276 (by decide +kernel) (by decide +kernel)
theorem w_278 : Jvm.Cond.instanceMethod ({ cls := "java/lang/Throwable", name := "<init>", desc := "()V" } : Jvm.MethodName) ∈ lw_good := lw_g 278 (by decide +kernel) (by decide +kernel)
theorem w_279 : Jvm.Cond.code ({ cls := "java/lang/Throwable", name := "<init>", desc := "()V" } : Jvm.MethodName) prog_22_method_1_code (1 : Nat) (Option.none : Option Jvm.ClassFile.FieldType) ∈ lw_good := lw_g 279 (by decide +kernel) (by decide +kernel)
theorem w_280 : Jvm.Cond.methodLink "java/lang/Throwable" (1 : Nat) ({ cls := "java/lang/Object", name := "<init>", desc := "()V" } : Jvm.MethodName) ∈ lw_good := lw_g 280 (by decide +kernel) (by decide +kernel)
theorem w_281 : Jvm.Cond.fieldLink "java/lang/Throwable" (13 : Nat) "java/lang/Throwable" "UNASSIGNED_STACK" "[Ljava/lang/StackTraceElement;" ∈ lw_good := lw_g 281 (by decide +kernel) (by decide +kernel)
theorem w_283 : Jvm.Cond.fieldLink "java/lang/Throwable" (20 : Nat) "java/lang/Throwable" "SUPPRESSED_SENTINEL" "Ljava/util/List;" ∈ lw_good := lw_g 283 (by decide +kernel) (by decide +kernel)
theorem w_285 : Jvm.Cond.methodLink "java/lang/Throwable" (27 : Nat) ({ cls := "java/lang/Throwable", name := "fillInStackTrace", desc := "()Ljava/lang/Throwable;" } : Jvm.MethodName) ∈ lw_good := lw_g 285 (by decide +kernel) (by decide +kernel)
theorem w_286 : Jvm.Cond.instanceMethod ({ cls := "java/lang/Throwable", name := "fillInStackTrace", desc := "()Ljava/lang/Throwable;" } : Jvm.MethodName) ∈ lw_good := lw_g 286 (by decide +kernel) (by decide +kernel)
theorem w_288 : Jvm.Cond.selects "java/lang/IllegalArgumentException" ({ cls := "java/lang/Throwable", name := "fillInStackTrace", desc := "()Ljava/lang/Throwable;" } : Jvm.MethodName) ({ cls := "java/lang/Throwable", name := "fillInStackTrace", desc := "()Ljava/lang/Throwable;" } : Jvm.MethodName) ∈ lw_good := lw_g 288 (by decide +kernel) (by decide +kernel)
theorem w_289 : Jvm.Cond.selects "java/lang/IllegalStateException" ({ cls := "java/lang/Throwable", name := "fillInStackTrace", desc := "()Ljava/lang/Throwable;" } : Jvm.MethodName) ({ cls := "java/lang/Throwable", name := "fillInStackTrace", desc := "()Ljava/lang/Throwable;" } : Jvm.MethodName) ∈ lw_good := lw_g 289 (by decide +kernel) (by decide +kernel)
theorem w_291 : Jvm.Cond.methodLink "java/lang/Throwable" (202 : Nat) ({ cls := "java/lang/Throwable", name := "fillInStackTrace", desc := "(I)Ljava/lang/Throwable;" } : Jvm.MethodName) ∈ lw_good := lw_g 291 (by decide +kernel) (by decide +kernel)
theorem w_293 : Jvm.Cond.instanceMethod ({ cls := "java/lang/Throwable", name := "fillInStackTrace", desc := "(I)Ljava/lang/Throwable;" } : Jvm.MethodName) ∈ lw_good := lw_g 293 (by decide +kernel) (by decide +kernel)
theorem w_294 : Jvm.Cond.instantiable "java/lang/Throwable" (6 : Nat) ∈ lw_good := lw_g 294 (by decide +kernel) (by decide +kernel)
theorem w_297 : Jvm.Cond.methodLink "Proratehouse" (65 : Nat) ({ cls := "java/lang/IndexOutOfBoundsException", name := "<init>", desc := "(Ljava/lang/String;)V" } : Jvm.MethodName) ∈ lw_good := lw_g 297 (by decide +kernel) (by decide +kernel)
theorem w_298 : Jvm.Cond.instanceMethod ({ cls := "java/lang/IndexOutOfBoundsException", name := "<init>", desc := "(Ljava/lang/String;)V" } : Jvm.MethodName) ∈ lw_good := lw_g 298 (by decide +kernel) (by decide +kernel)
theorem w_299 : Jvm.Cond.code ({ cls := "java/lang/IndexOutOfBoundsException", name := "<init>", desc := "(Ljava/lang/String;)V" } : Jvm.MethodName) prog_18_method_2_code (2 : Nat) (Option.none : Option Jvm.ClassFile.FieldType) ∈ lw_good := lw_g 299 (by decide +kernel) (by decide +kernel)
theorem w_300 : Jvm.Cond.methodLink "java/lang/IndexOutOfBoundsException" (7 : Nat) ({ cls := "java/lang/RuntimeException", name := "<init>", desc := "(Ljava/lang/String;)V" } : Jvm.MethodName) ∈ lw_good := lw_g 300 (by decide +kernel) (by decide +kernel)
theorem w_301 : Jvm.Cond.instanceMethod ({ cls := "java/lang/RuntimeException", name := "<init>", desc := "(Ljava/lang/String;)V" } : Jvm.MethodName) ∈ lw_good := lw_g 301 (by decide +kernel) (by decide +kernel)
theorem w_302 : Jvm.Cond.code ({ cls := "java/lang/RuntimeException", name := "<init>", desc := "(Ljava/lang/String;)V" } : Jvm.MethodName) prog_20_method_2_code (2 : Nat) (Option.none : Option Jvm.ClassFile.FieldType) ∈ lw_good := lw_g 302 (by decide +kernel) (by decide +kernel)
theorem w_303 : Jvm.Cond.methodLink "java/lang/RuntimeException" (7 : Nat) ({ cls := "java/lang/Exception", name := "<init>", desc := "(Ljava/lang/String;)V" } : Jvm.MethodName) ∈ lw_good := lw_g 303 (by decide +kernel) (by decide +kernel)
theorem w_304 : Jvm.Cond.instanceMethod ({ cls := "java/lang/Exception", name := "<init>", desc := "(Ljava/lang/String;)V" } : Jvm.MethodName) ∈ lw_good := lw_g 304 (by decide +kernel) (by decide +kernel)
theorem w_305 : Jvm.Cond.code ({ cls := "java/lang/Exception", name := "<init>", desc := "(Ljava/lang/String;)V" } : Jvm.MethodName) prog_15_method_2_code (2 : Nat) (Option.none : Option Jvm.ClassFile.FieldType) ∈ lw_good := lw_g 305 (by decide +kernel) (by decide +kernel)
theorem w_306 : Jvm.Cond.methodLink "java/lang/Exception" (7 : Nat) ({ cls := "java/lang/Throwable", name := "<init>", desc := "(Ljava/lang/String;)V" } : Jvm.MethodName) ∈ lw_good := lw_g 306 (by decide +kernel) (by decide +kernel)
theorem w_307 : Jvm.Cond.instanceMethod ({ cls := "java/lang/Throwable", name := "<init>", desc := "(Ljava/lang/String;)V" } : Jvm.MethodName) ∈ lw_good := lw_g 307 (by decide +kernel) (by decide +kernel)
theorem w_308 : Jvm.Cond.code ({ cls := "java/lang/Throwable", name := "<init>", desc := "(Ljava/lang/String;)V" } : Jvm.MethodName) prog_22_method_2_code (2 : Nat) (Option.none : Option Jvm.ClassFile.FieldType) ∈ lw_good := lw_g 308 (by decide +kernel) (by decide +kernel)
theorem w_309 : Jvm.Cond.fieldLink "java/lang/Throwable" (198 : Nat) "java/lang/Throwable" "backtrace" "Ljava/lang/Object;" ∈ lw_good := lw_g 309 (by decide +kernel) (by decide +kernel)
theorem w_310 : Jvm.Cond.fieldLink "java/lang/Throwable" (31 : Nat) "java/lang/Throwable" "detailMessage" "Ljava/lang/String;" ∈ lw_good := lw_g 310 (by decide +kernel) (by decide +kernel)
theorem w_311 : Jvm.Cond.fieldLink "java/lang/Throwable" (7 : Nat) "java/lang/Throwable" "cause" "Ljava/lang/Throwable;" ∈ lw_good := lw_g 311 (by decide +kernel) (by decide +kernel)
theorem w_312 : Jvm.Cond.fieldLink "java/lang/Throwable" (17 : Nat) "java/lang/Throwable" "stackTrace" "[Ljava/lang/StackTraceElement;" ∈ lw_good := lw_g 312 (by decide +kernel) (by decide +kernel)
theorem w_313 : Jvm.Cond.fieldLink "java/lang/Throwable" (24 : Nat) "java/lang/Throwable" "suppressedExceptions" "Ljava/util/List;" ∈ lw_good := lw_g 313 (by decide +kernel) (by decide +kernel)
theorem w_322 : Jvm.Cond.arrayClass Jvm.ClassFile.FieldType.byte ∈ lw_good := lw_g 322 (by decide +kernel) (by decide +kernel)
theorem w_323 : Jvm.Cond.methodLink "Proratehouse" (68 : Nat) ({ cls := "Proratehouse", name := "isWithin", desc := "(III)Z" } : Jvm.MethodName) ∈ lw_good := lw_g 323 (by decide +kernel) (by decide +kernel)
theorem w_324 : Jvm.Cond.static ({ cls := "Proratehouse", name := "isWithin", desc := "(III)Z" } : Jvm.MethodName) ∈ lw_good := lw_g 324 (by decide +kernel) (by decide +kernel)
theorem w_325 : Jvm.Cond.code ({ cls := "Proratehouse", name := "isWithin", desc := "(III)Z" } : Jvm.MethodName) prog_1_method_34_code (3 : Nat) (Option.some Jvm.ClassFile.FieldType.boolean) ∈ lw_good := lw_g 325 (by decide +kernel) (by decide +kernel)
theorem w_326 : Jvm.Cond.classLink "Proratehouse" (72 : Nat) "java/lang/IllegalArgumentException" ∈ lw_good := lw_g 326 (by decide +kernel) (by decide +kernel)
theorem w_327 : Jvm.Cond.instantiable "java/lang/IllegalArgumentException" (6 : Nat) ∈ lw_good := lw_g 327 (by decide +kernel) (by decide +kernel)
theorem w_329 : Jvm.Cond.selects "java/lang/IllegalArgumentException" ({ cls := "java/lang/Throwable", name := "fillInStackTrace", desc := "(I)Ljava/lang/Throwable;" } : Jvm.MethodName) ({ cls := "java/lang/Throwable", name := "fillInStackTrace", desc := "(I)Ljava/lang/Throwable;" } : Jvm.MethodName) ∈ lw_good := lw_g 329 (by decide +kernel) (by decide +kernel)
theorem w_336 : Jvm.Cond.methodLink "Proratehouse" (76 : Nat) ({ cls := "java/lang/IllegalArgumentException", name := "<init>", desc := "(Ljava/lang/String;)V" } : Jvm.MethodName) ∈ lw_good := lw_g 336 (by decide +kernel) (by decide +kernel)
theorem w_337 : Jvm.Cond.instanceMethod ({ cls := "java/lang/IllegalArgumentException", name := "<init>", desc := "(Ljava/lang/String;)V" } : Jvm.MethodName) ∈ lw_good := lw_g 337 (by decide +kernel) (by decide +kernel)
theorem w_338 : Jvm.Cond.code ({ cls := "java/lang/IllegalArgumentException", name := "<init>", desc := "(Ljava/lang/String;)V" } : Jvm.MethodName) prog_16_method_2_code (2 : Nat) (Option.none : Option Jvm.ClassFile.FieldType) ∈ lw_good := lw_g 338 (by decide +kernel) (by decide +kernel)
theorem w_339 : Jvm.Cond.methodLink "java/lang/IllegalArgumentException" (7 : Nat) ({ cls := "java/lang/RuntimeException", name := "<init>", desc := "(Ljava/lang/String;)V" } : Jvm.MethodName) ∈ lw_good := lw_g 339 (by decide +kernel) (by decide +kernel)
theorem w_342 : Jvm.Cond.methodLink "Proratehouse" (81 : Nat) ({ cls := "Proratehouse$Pairs", name := "put", desc := "(III)I" } : Jvm.MethodName) ∈ lw_good := lw_g 342 (by decide +kernel) (by decide +kernel)
theorem w_343 : Jvm.Cond.instanceMethod ({ cls := "Proratehouse$Pairs", name := "put", desc := "(III)I" } : Jvm.MethodName) ∈ lw_good := lw_g 343 (by decide +kernel) (by decide +kernel)
theorem w_344 : Jvm.Cond.selects "Proratehouse$Pairs" ({ cls := "Proratehouse$Pairs", name := "put", desc := "(III)I" } : Jvm.MethodName) ({ cls := "Proratehouse$Pairs", name := "put", desc := "(III)I" } : Jvm.MethodName) ∈ lw_good := lw_g 344 (by decide +kernel) (by decide +kernel)
theorem w_345 : Jvm.Cond.code ({ cls := "Proratehouse$Pairs", name := "put", desc := "(III)I" } : Jvm.MethodName) prog_8_method_3_code (5 : Nat) (Option.some Jvm.ClassFile.FieldType.int) ∈ lw_good := lw_g 345 (by decide +kernel) (by decide +kernel)
theorem w_346 : Jvm.Cond.methodLink "Proratehouse$Pairs" (19 : Nat) ({ cls := "Proratehouse$Pairs", name := "get", desc := "(II)I" } : Jvm.MethodName) ∈ lw_good := lw_g 346 (by decide +kernel) (by decide +kernel)
theorem w_347 : Jvm.Cond.instanceMethod ({ cls := "Proratehouse$Pairs", name := "get", desc := "(II)I" } : Jvm.MethodName) ∈ lw_good := lw_g 347 (by decide +kernel) (by decide +kernel)
theorem w_348 : Jvm.Cond.selects "Proratehouse$Pairs" ({ cls := "Proratehouse$Pairs", name := "get", desc := "(II)I" } : Jvm.MethodName) ({ cls := "Proratehouse$Pairs", name := "get", desc := "(II)I" } : Jvm.MethodName) ∈ lw_good := lw_g 348 (by decide +kernel) (by decide +kernel)
theorem w_349 : Jvm.Cond.code ({ cls := "Proratehouse$Pairs", name := "get", desc := "(II)I" } : Jvm.MethodName) prog_8_method_2_code (3 : Nat) (Option.some Jvm.ClassFile.FieldType.int) ∈ lw_good := lw_g 349 (by decide +kernel) (by decide +kernel)
theorem w_351 : Jvm.Cond.constant "ProratehouseLaw" (18 : Nat) (-1000001 : Int32) ∈ lw_good := lw_g 351 (by decide +kernel) (by decide +kernel)
theorem w_352 : Jvm.Cond.constant "ProratehouseLaw" (21 : Nat) (-1000002 : Int32) ∈ lw_good := lw_g 352 (by decide +kernel) (by decide +kernel)
theorem w_353 : Jvm.Cond.methodLink "ProratehouseLaw" (218 : Nat) ({ cls := "ProratehouseLaw", name := "balances", desc := "(LProratehouse;[I)Z" } : Jvm.MethodName) ∈ lw_good := lw_g 353 (by decide +kernel) (by decide +kernel)
theorem w_354 : Jvm.Cond.static ({ cls := "ProratehouseLaw", name := "balances", desc := "(LProratehouse;[I)Z" } : Jvm.MethodName) ∈ lw_good := lw_g 354 (by decide +kernel) (by decide +kernel)
theorem w_355 : Jvm.Cond.code ({ cls := "ProratehouseLaw", name := "balances", desc := "(LProratehouse;[I)Z" } : Jvm.MethodName) method_30_code (6 : Nat) (Option.some Jvm.ClassFile.FieldType.boolean) ∈ lw_good := lw_g 355 (by decide +kernel) (by decide +kernel)
theorem w_356 : Jvm.Cond.methodLink "ProratehouseLaw" (110 : Nat) ({ cls := "ProratehouseLaw", name := "cash", desc := "(LProratehouse;I)J" } : Jvm.MethodName) ∈ lw_good := lw_g 356 (by decide +kernel) (by decide +kernel)
theorem w_357 : Jvm.Cond.static ({ cls := "ProratehouseLaw", name := "cash", desc := "(LProratehouse;I)J" } : Jvm.MethodName) ∈ lw_good := lw_g 357 (by decide +kernel) (by decide +kernel)
theorem w_358 : Jvm.Cond.codeWith ({ cls := "ProratehouseLaw", name := "cash", desc := "(LProratehouse;I)J" } : Jvm.MethodName) method_26_code (3 : Nat) (Option.some Jvm.ClassFile.FieldType.long) [((0 : Nat), (5 : Nat), (6 : Nat), (16 : Nat))] ∈ lw_good := lw_g 358 (by decide +kernel) (by decide +kernel)
theorem w_359 : Jvm.Cond.methodLink "ProratehouseLaw" (95 : Nat) ({ cls := "Proratehouse", name := "cash", desc := "(I)J" } : Jvm.MethodName) ∈ lw_good := lw_g 359 (by decide +kernel) (by decide +kernel)
theorem w_360 : Jvm.Cond.instanceMethod ({ cls := "Proratehouse", name := "cash", desc := "(I)J" } : Jvm.MethodName) ∈ lw_good := lw_g 360 (by decide +kernel) (by decide +kernel)
theorem w_361 : Jvm.Cond.selects "Proratehouse" ({ cls := "Proratehouse", name := "cash", desc := "(I)J" } : Jvm.MethodName) ({ cls := "Proratehouse", name := "cash", desc := "(I)J" } : Jvm.MethodName) ∈ lw_good := lw_g 361 (by decide +kernel) (by decide +kernel)
theorem w_362 : Jvm.Cond.code ({ cls := "Proratehouse", name := "cash", desc := "(I)J" } : Jvm.MethodName) prog_1_method_29_code (2 : Nat) (Option.some Jvm.ClassFile.FieldType.long) ∈ lw_good := lw_g 362 (by decide +kernel) (by decide +kernel)
theorem w_363 : Jvm.Cond.methodLink "Proratehouse" (136 : Nat) ({ cls := "Proratehouse", name := "isCarrier", desc := "(I)Z" } : Jvm.MethodName) ∈ lw_good := lw_g 363 (by decide +kernel) (by decide +kernel)
theorem w_364 : Jvm.Cond.static ({ cls := "Proratehouse", name := "isCarrier", desc := "(I)Z" } : Jvm.MethodName) ∈ lw_good := lw_g 364 (by decide +kernel) (by decide +kernel)
theorem w_365 : Jvm.Cond.code ({ cls := "Proratehouse", name := "isCarrier", desc := "(I)Z" } : Jvm.MethodName) prog_1_method_36_code (1 : Nat) (Option.some Jvm.ClassFile.FieldType.boolean) ∈ lw_good := lw_g 365 (by decide +kernel) (by decide +kernel)
theorem w_367 : Jvm.Cond.constantLong "ProratehouseLaw" (99 : Nat) (-1000001 : Int64) ∈ lw_good := lw_g 367 (by decide +kernel) (by decide +kernel)
theorem w_368 : Jvm.Cond.methodLink "ProratehouseLaw" (115 : Nat) ({ cls := "ProratehouseLaw", name := "state", desc := "(LProratehouse;I)J" } : Jvm.MethodName) ∈ lw_good := lw_g 368 (by decide +kernel) (by decide +kernel)
theorem w_369 : Jvm.Cond.static ({ cls := "ProratehouseLaw", name := "state", desc := "(LProratehouse;I)J" } : Jvm.MethodName) ∈ lw_good := lw_g 369 (by decide +kernel) (by decide +kernel)
theorem w_370 : Jvm.Cond.codeWith ({ cls := "ProratehouseLaw", name := "state", desc := "(LProratehouse;I)J" } : Jvm.MethodName) method_28_code (3 : Nat) (Option.some Jvm.ClassFile.FieldType.long) [((0 : Nat), (5 : Nat), (6 : Nat), (16 : Nat))] ∈ lw_good := lw_g 370 (by decide +kernel) (by decide +kernel)
theorem w_371 : Jvm.Cond.methodLink "ProratehouseLaw" (104 : Nat) ({ cls := "Proratehouse", name := "state", desc := "(I)J" } : Jvm.MethodName) ∈ lw_good := lw_g 371 (by decide +kernel) (by decide +kernel)
theorem w_372 : Jvm.Cond.instanceMethod ({ cls := "Proratehouse", name := "state", desc := "(I)J" } : Jvm.MethodName) ∈ lw_good := lw_g 372 (by decide +kernel) (by decide +kernel)
theorem w_373 : Jvm.Cond.selects "Proratehouse" ({ cls := "Proratehouse", name := "state", desc := "(I)J" } : Jvm.MethodName) ({ cls := "Proratehouse", name := "state", desc := "(I)J" } : Jvm.MethodName) ∈ lw_good := lw_g 373 (by decide +kernel) (by decide +kernel)
theorem w_374 : Jvm.Cond.code ({ cls := "Proratehouse", name := "state", desc := "(I)J" } : Jvm.MethodName) prog_1_method_31_code (2 : Nat) (Option.some Jvm.ClassFile.FieldType.long) ∈ lw_good := lw_g 374 (by decide +kernel) (by decide +kernel)
theorem w_375 : Jvm.Cond.methodLink "ProratehouseLaw" (117 : Nat) ({ cls := "ProratehouseLaw", name := "of", desc := "(LProratehouse;I)I" } : Jvm.MethodName) ∈ lw_good := lw_g 375 (by decide +kernel) (by decide +kernel)
theorem w_376 : Jvm.Cond.static ({ cls := "ProratehouseLaw", name := "of", desc := "(LProratehouse;I)I" } : Jvm.MethodName) ∈ lw_good := lw_g 376 (by decide +kernel) (by decide +kernel)
theorem w_377 : Jvm.Cond.codeWith ({ cls := "ProratehouseLaw", name := "of", desc := "(LProratehouse;I)I" } : Jvm.MethodName) method_29_code (3 : Nat) (Option.some Jvm.ClassFile.FieldType.int) [((0 : Nat), (5 : Nat), (6 : Nat), (19 : Nat))] ∈ lw_good := lw_g 377 (by decide +kernel) (by decide +kernel)
theorem w_378 : Jvm.Cond.methodLink "ProratehouseLaw" (107 : Nat) ({ cls := "Proratehouse", name := "of", desc := "(I)I" } : Jvm.MethodName) ∈ lw_good := lw_g 378 (by decide +kernel) (by decide +kernel)
theorem w_379 : Jvm.Cond.instanceMethod ({ cls := "Proratehouse", name := "of", desc := "(I)I" } : Jvm.MethodName) ∈ lw_good := lw_g 379 (by decide +kernel) (by decide +kernel)
theorem w_380 : Jvm.Cond.selects "Proratehouse" ({ cls := "Proratehouse", name := "of", desc := "(I)I" } : Jvm.MethodName) ({ cls := "Proratehouse", name := "of", desc := "(I)I" } : Jvm.MethodName) ∈ lw_good := lw_g 380 (by decide +kernel) (by decide +kernel)
theorem w_381 : Jvm.Cond.code ({ cls := "Proratehouse", name := "of", desc := "(I)I" } : Jvm.MethodName) prog_1_method_33_code (2 : Nat) (Option.some Jvm.ClassFile.FieldType.int) ∈ lw_good := lw_g 381 (by decide +kernel) (by decide +kernel)
theorem w_383 : Jvm.Cond.methodLink "ProratehouseLaw" (120 : Nat) ({ cls := "ProratehouseLaw", name := "cashAnew", desc := "(LProratehouse;I)J" } : Jvm.MethodName) ∈ lw_good := lw_g 383 (by decide +kernel) (by decide +kernel)
theorem w_384 : Jvm.Cond.static ({ cls := "ProratehouseLaw", name := "cashAnew", desc := "(LProratehouse;I)J" } : Jvm.MethodName) ∈ lw_good := lw_g 384 (by decide +kernel) (by decide +kernel)
theorem w_385 : Jvm.Cond.codeWith ({ cls := "ProratehouseLaw", name := "cashAnew", desc := "(LProratehouse;I)J" } : Jvm.MethodName) method_27_code (3 : Nat) (Option.some Jvm.ClassFile.FieldType.long) [((0 : Nat), (5 : Nat), (6 : Nat), (16 : Nat))] ∈ lw_good := lw_g 385 (by decide +kernel) (by decide +kernel)
theorem w_386 : Jvm.Cond.methodLink "ProratehouseLaw" (101 : Nat) ({ cls := "Proratehouse", name := "cashAnew", desc := "(I)J" } : Jvm.MethodName) ∈ lw_good := lw_g 386 (by decide +kernel) (by decide +kernel)
theorem w_387 : Jvm.Cond.instanceMethod ({ cls := "Proratehouse", name := "cashAnew", desc := "(I)J" } : Jvm.MethodName) ∈ lw_good := lw_g 387 (by decide +kernel) (by decide +kernel)
theorem w_388 : Jvm.Cond.selects "Proratehouse" ({ cls := "Proratehouse", name := "cashAnew", desc := "(I)J" } : Jvm.MethodName) ({ cls := "Proratehouse", name := "cashAnew", desc := "(I)J" } : Jvm.MethodName) ∈ lw_good := lw_g 388 (by decide +kernel) (by decide +kernel)
theorem w_389 : Jvm.Cond.code ({ cls := "Proratehouse", name := "cashAnew", desc := "(I)J" } : Jvm.MethodName) prog_1_method_30_code (6 : Nat) (Option.some Jvm.ClassFile.FieldType.long) ∈ lw_good := lw_g 389 (by decide +kernel) (by decide +kernel)
theorem w_390 : Jvm.Cond.methodLink "Proratehouse" (362 : Nat) ({ cls := "Proratehouse$Clearing", name := "gotBy", desc := "(I)J" } : Jvm.MethodName) ∈ lw_good := lw_g 390 (by decide +kernel) (by decide +kernel)
theorem w_391 : Jvm.Cond.instanceMethod ({ cls := "Proratehouse$Clearing", name := "gotBy", desc := "(I)J" } : Jvm.MethodName) ∈ lw_good := lw_g 391 (by decide +kernel) (by decide +kernel)
theorem w_392 : Jvm.Cond.selects "Proratehouse$Clearing" ({ cls := "Proratehouse$Clearing", name := "gotBy", desc := "(I)J" } : Jvm.MethodName) ({ cls := "Proratehouse$Clearing", name := "gotBy", desc := "(I)J" } : Jvm.MethodName) ∈ lw_good := lw_g 392 (by decide +kernel) (by decide +kernel)
theorem w_393 : Jvm.Cond.code ({ cls := "Proratehouse$Clearing", name := "gotBy", desc := "(I)J" } : Jvm.MethodName) prog_3_method_12_code (6 : Nat) (Option.some Jvm.ClassFile.FieldType.long) ∈ lw_good := lw_g 393 (by decide +kernel) (by decide +kernel)
theorem w_394 : Jvm.Cond.methodLink "Proratehouse$Clearing" (41 : Nat) ({ cls := "Proratehouse$Clearing", name := "billAt", desc := "(I)LProratehouse$Bill;" } : Jvm.MethodName) ∈ lw_good := lw_g 394 (by decide +kernel) (by decide +kernel)
theorem w_395 : Jvm.Cond.instanceMethod ({ cls := "Proratehouse$Clearing", name := "billAt", desc := "(I)LProratehouse$Bill;" } : Jvm.MethodName) ∈ lw_good := lw_g 395 (by decide +kernel) (by decide +kernel)
theorem w_396 : Jvm.Cond.selects "Proratehouse$Clearing" ({ cls := "Proratehouse$Clearing", name := "billAt", desc := "(I)LProratehouse$Bill;" } : Jvm.MethodName) ({ cls := "Proratehouse$Clearing", name := "billAt", desc := "(I)LProratehouse$Bill;" } : Jvm.MethodName) ∈ lw_good := lw_g 396 (by decide +kernel) (by decide +kernel)
theorem w_397 : Jvm.Cond.code ({ cls := "Proratehouse$Clearing", name := "billAt", desc := "(I)LProratehouse$Bill;" } : Jvm.MethodName) prog_3_method_3_code (2 : Nat) (Option.some (Jvm.ClassFile.FieldType.object "Proratehouse$Bill")) ∈ lw_good := lw_g 397 (by decide +kernel) (by decide +kernel)
theorem w_398 : Jvm.Cond.methodLink "Proratehouse$Clearing" (86 : Nat) ({ cls := "Proratehouse$Bill", name := "gotByPayee", desc := "()I" } : Jvm.MethodName) ∈ lw_good := lw_g 398 (by decide +kernel) (by decide +kernel)
theorem w_399 : Jvm.Cond.instanceMethod ({ cls := "Proratehouse$Bill", name := "gotByPayee", desc := "()I" } : Jvm.MethodName) ∈ lw_good := lw_g 399 (by decide +kernel) (by decide +kernel)
theorem w_400 : Jvm.Cond.selects "Proratehouse$Bill" ({ cls := "Proratehouse$Bill", name := "gotByPayee", desc := "()I" } : Jvm.MethodName) ({ cls := "Proratehouse$Bill", name := "gotByPayee", desc := "()I" } : Jvm.MethodName) ∈ lw_good := lw_g 400 (by decide +kernel) (by decide +kernel)
theorem w_401 : Jvm.Cond.code ({ cls := "Proratehouse$Bill", name := "gotByPayee", desc := "()I" } : Jvm.MethodName) prog_2_method_8_code (1 : Nat) (Option.some Jvm.ClassFile.FieldType.int) ∈ lw_good := lw_g 401 (by decide +kernel) (by decide +kernel)
theorem w_402 : Jvm.Cond.methodLink "Proratehouse" (226 : Nat) ({ cls := "Proratehouse", name := "ticketAt", desc := "(I)LProratehouse$Ticket;" } : Jvm.MethodName) ∈ lw_good := lw_g 402 (by decide +kernel) (by decide +kernel)
theorem w_404 : Jvm.Cond.instanceMethod ({ cls := "Proratehouse", name := "ticketAt", desc := "(I)LProratehouse$Ticket;" } : Jvm.MethodName) ∈ lw_good := lw_g 404 (by decide +kernel) (by decide +kernel)
theorem w_405 : Jvm.Cond.code ({ cls := "Proratehouse", name := "ticketAt", desc := "(I)LProratehouse$Ticket;" } : Jvm.MethodName) prog_1_method_37_code (3 : Nat) (Option.some (Jvm.ClassFile.FieldType.object "Proratehouse$Ticket")) ∈ lw_good := lw_g 405 (by decide +kernel) (by decide +kernel)
theorem w_406 : Jvm.Cond.methodLink "Proratehouse" (370 : Nat) ({ cls := "Proratehouse$Ticket", name := "flownTaxes", desc := "()I" } : Jvm.MethodName) ∈ lw_good := lw_g 406 (by decide +kernel) (by decide +kernel)
theorem w_407 : Jvm.Cond.instanceMethod ({ cls := "Proratehouse$Ticket", name := "flownTaxes", desc := "()I" } : Jvm.MethodName) ∈ lw_good := lw_g 407 (by decide +kernel) (by decide +kernel)
theorem w_408 : Jvm.Cond.selects "Proratehouse$Ticket" ({ cls := "Proratehouse$Ticket", name := "flownTaxes", desc := "()I" } : Jvm.MethodName) ({ cls := "Proratehouse$Ticket", name := "flownTaxes", desc := "()I" } : Jvm.MethodName) ∈ lw_good := lw_g 408 (by decide +kernel) (by decide +kernel)
theorem w_409 : Jvm.Cond.code ({ cls := "Proratehouse$Ticket", name := "flownTaxes", desc := "()I" } : Jvm.MethodName) prog_11_method_8_code (4 : Nat) (Option.some Jvm.ClassFile.FieldType.int) ∈ lw_good := lw_g 409 (by decide +kernel) (by decide +kernel)
theorem w_410 : Jvm.Cond.methodLink "Proratehouse$Ticket" (36 : Nat) ({ cls := "Proratehouse$Ticket", name := "couponAt", desc := "(I)LProratehouse$Coupon;" } : Jvm.MethodName) ∈ lw_good := lw_g 410 (by decide +kernel) (by decide +kernel)
theorem w_411 : Jvm.Cond.instanceMethod ({ cls := "Proratehouse$Ticket", name := "couponAt", desc := "(I)LProratehouse$Coupon;" } : Jvm.MethodName) ∈ lw_good := lw_g 411 (by decide +kernel) (by decide +kernel)
theorem w_412 : Jvm.Cond.selects "Proratehouse$Ticket" ({ cls := "Proratehouse$Ticket", name := "couponAt", desc := "(I)LProratehouse$Coupon;" } : Jvm.MethodName) ({ cls := "Proratehouse$Ticket", name := "couponAt", desc := "(I)LProratehouse$Coupon;" } : Jvm.MethodName) ∈ lw_good := lw_g 412 (by decide +kernel) (by decide +kernel)
theorem w_413 : Jvm.Cond.code ({ cls := "Proratehouse$Ticket", name := "couponAt", desc := "(I)LProratehouse$Coupon;" } : Jvm.MethodName) prog_11_method_3_code (2 : Nat) (Option.some (Jvm.ClassFile.FieldType.object "Proratehouse$Coupon")) ∈ lw_good := lw_g 413 (by decide +kernel) (by decide +kernel)
theorem w_414 : Jvm.Cond.methodLink "ProratehouseLaw" (122 : Nat) ({ cls := "Proratehouse", name := "paid", desc := "()J" } : Jvm.MethodName) ∈ lw_good := lw_g 414 (by decide +kernel) (by decide +kernel)
theorem w_415 : Jvm.Cond.instanceMethod ({ cls := "Proratehouse", name := "paid", desc := "()J" } : Jvm.MethodName) ∈ lw_good := lw_g 415 (by decide +kernel) (by decide +kernel)
theorem w_416 : Jvm.Cond.selects "Proratehouse" ({ cls := "Proratehouse", name := "paid", desc := "()J" } : Jvm.MethodName) ({ cls := "Proratehouse", name := "paid", desc := "()J" } : Jvm.MethodName) ∈ lw_good := lw_g 416 (by decide +kernel) (by decide +kernel)
theorem w_417 : Jvm.Cond.code ({ cls := "Proratehouse", name := "paid", desc := "()J" } : Jvm.MethodName) prog_1_method_32_code (1 : Nat) (Option.some Jvm.ClassFile.FieldType.long) ∈ lw_good := lw_g 417 (by decide +kernel) (by decide +kernel)
theorem w_418 : Jvm.Cond.methodLink "ProratehouseLaw" (170 : Nat) ({ cls := "ProratehouseLaw", name := "isTicket", desc := "(LProratehouse;[II)Z" } : Jvm.MethodName) ∈ lw_good := lw_g 418 (by decide +kernel) (by decide +kernel)
theorem w_419 : Jvm.Cond.static ({ cls := "ProratehouseLaw", name := "isTicket", desc := "(LProratehouse;[II)Z" } : Jvm.MethodName) ∈ lw_good := lw_g 419 (by decide +kernel) (by decide +kernel)
theorem w_420 : Jvm.Cond.code ({ cls := "ProratehouseLaw", name := "isTicket", desc := "(LProratehouse;[II)Z" } : Jvm.MethodName) method_32_code (12 : Nat) (Option.some Jvm.ClassFile.FieldType.boolean) ∈ lw_good := lw_g 420 (by decide +kernel) (by decide +kernel)
theorem w_421 : Jvm.Cond.methodLink "ProratehouseLaw" (141 : Nat) ({ cls := "ProratehouseLaw", name := "ofTicket", desc := "(LProratehouse;II)I" } : Jvm.MethodName) ∈ lw_good := lw_g 421 (by decide +kernel) (by decide +kernel)
theorem w_422 : Jvm.Cond.static ({ cls := "ProratehouseLaw", name := "ofTicket", desc := "(LProratehouse;II)I" } : Jvm.MethodName) ∈ lw_good := lw_g 422 (by decide +kernel) (by decide +kernel)
theorem w_423 : Jvm.Cond.codeWith ({ cls := "ProratehouseLaw", name := "ofTicket", desc := "(LProratehouse;II)I" } : Jvm.MethodName) method_23_code (4 : Nat) (Option.some Jvm.ClassFile.FieldType.int) [((0 : Nat), (6 : Nat), (7 : Nat), (16 : Nat)), ((0 : Nat), (6 : Nat), (11 : Nat), (19 : Nat))] ∈ lw_good := lw_g 423 (by decide +kernel) (by decide +kernel)
theorem w_424 : Jvm.Cond.methodLink "ProratehouseLaw" (86 : Nat) ({ cls := "Proratehouse", name := "ofTicket", desc := "(II)I" } : Jvm.MethodName) ∈ lw_good := lw_g 424 (by decide +kernel) (by decide +kernel)
theorem w_425 : Jvm.Cond.instanceMethod ({ cls := "Proratehouse", name := "ofTicket", desc := "(II)I" } : Jvm.MethodName) ∈ lw_good := lw_g 425 (by decide +kernel) (by decide +kernel)
theorem w_426 : Jvm.Cond.selects "Proratehouse" ({ cls := "Proratehouse", name := "ofTicket", desc := "(II)I" } : Jvm.MethodName) ({ cls := "Proratehouse", name := "ofTicket", desc := "(II)I" } : Jvm.MethodName) ∈ lw_good := lw_g 426 (by decide +kernel) (by decide +kernel)
theorem w_427 : Jvm.Cond.code ({ cls := "Proratehouse", name := "ofTicket", desc := "(II)I" } : Jvm.MethodName) prog_1_method_26_code (4 : Nat) (Option.some Jvm.ClassFile.FieldType.int) ∈ lw_good := lw_g 427 (by decide +kernel) (by decide +kernel)
theorem w_429 : Jvm.Cond.methodLink "ProratehouseLaw" (143 : Nat) ({ cls := "ProratehouseLaw", name := "ofCoupon", desc := "(LProratehouse;III)I" } : Jvm.MethodName) ∈ lw_good := lw_g 429 (by decide +kernel) (by decide +kernel)
theorem w_430 : Jvm.Cond.static ({ cls := "ProratehouseLaw", name := "ofCoupon", desc := "(LProratehouse;III)I" } : Jvm.MethodName) ∈ lw_good := lw_g 430 (by decide +kernel) (by decide +kernel)
theorem w_431 : Jvm.Cond.codeWith ({ cls := "ProratehouseLaw", name := "ofCoupon", desc := "(LProratehouse;III)I" } : Jvm.MethodName) method_24_code (5 : Nat) (Option.some Jvm.ClassFile.FieldType.int) [((0 : Nat), (7 : Nat), (8 : Nat), (16 : Nat)), ((0 : Nat), (7 : Nat), (13 : Nat), (19 : Nat))] ∈ lw_good := lw_g 431 (by decide +kernel) (by decide +kernel)
theorem w_432 : Jvm.Cond.methodLink "ProratehouseLaw" (89 : Nat) ({ cls := "Proratehouse", name := "ofCoupon", desc := "(III)I" } : Jvm.MethodName) ∈ lw_good := lw_g 432 (by decide +kernel) (by decide +kernel)
theorem w_433 : Jvm.Cond.instanceMethod ({ cls := "Proratehouse", name := "ofCoupon", desc := "(III)I" } : Jvm.MethodName) ∈ lw_good := lw_g 433 (by decide +kernel) (by decide +kernel)
theorem w_434 : Jvm.Cond.selects "Proratehouse" ({ cls := "Proratehouse", name := "ofCoupon", desc := "(III)I" } : Jvm.MethodName) ({ cls := "Proratehouse", name := "ofCoupon", desc := "(III)I" } : Jvm.MethodName) ∈ lw_good := lw_g 434 (by decide +kernel) (by decide +kernel)
theorem w_435 : Jvm.Cond.code ({ cls := "Proratehouse", name := "ofCoupon", desc := "(III)I" } : Jvm.MethodName) prog_1_method_27_code (6 : Nat) (Option.some Jvm.ClassFile.FieldType.int) ∈ lw_good := lw_g 435 (by decide +kernel) (by decide +kernel)
theorem w_436 : Jvm.Cond.methodLink "Proratehouse" (229 : Nat) ({ cls := "Proratehouse$Ticket", name := "couponAt", desc := "(I)LProratehouse$Coupon;" } : Jvm.MethodName) ∈ lw_good := lw_g 436 (by decide +kernel) (by decide +kernel)
theorem w_438 : Jvm.Cond.methodLink "ProratehouseLaw" (146 : Nat) ({ cls := "ProratehouseLaw", name := "ofBill", desc := "(LProratehouse;II)I" } : Jvm.MethodName) ∈ lw_good := lw_g 438 (by decide +kernel) (by decide +kernel)
theorem w_439 : Jvm.Cond.static ({ cls := "ProratehouseLaw", name := "ofBill", desc := "(LProratehouse;II)I" } : Jvm.MethodName) ∈ lw_good := lw_g 439 (by decide +kernel) (by decide +kernel)
theorem w_440 : Jvm.Cond.codeWith ({ cls := "ProratehouseLaw", name := "ofBill", desc := "(LProratehouse;II)I" } : Jvm.MethodName) method_25_code (4 : Nat) (Option.some Jvm.ClassFile.FieldType.int) [((0 : Nat), (6 : Nat), (7 : Nat), (16 : Nat)), ((0 : Nat), (6 : Nat), (11 : Nat), (19 : Nat))] ∈ lw_good := lw_g 440 (by decide +kernel) (by decide +kernel)
theorem w_441 : Jvm.Cond.methodLink "ProratehouseLaw" (92 : Nat) ({ cls := "Proratehouse", name := "ofBill", desc := "(II)I" } : Jvm.MethodName) ∈ lw_good := lw_g 441 (by decide +kernel) (by decide +kernel)
theorem w_442 : Jvm.Cond.instanceMethod ({ cls := "Proratehouse", name := "ofBill", desc := "(II)I" } : Jvm.MethodName) ∈ lw_good := lw_g 442 (by decide +kernel) (by decide +kernel)
theorem w_443 : Jvm.Cond.selects "Proratehouse" ({ cls := "Proratehouse", name := "ofBill", desc := "(II)I" } : Jvm.MethodName) ({ cls := "Proratehouse", name := "ofBill", desc := "(II)I" } : Jvm.MethodName) ∈ lw_good := lw_g 443 (by decide +kernel) (by decide +kernel)
theorem w_444 : Jvm.Cond.code ({ cls := "Proratehouse", name := "ofBill", desc := "(II)I" } : Jvm.MethodName) prog_1_method_28_code (4 : Nat) (Option.some Jvm.ClassFile.FieldType.int) ∈ lw_good := lw_g 444 (by decide +kernel) (by decide +kernel)
theorem w_445 : Jvm.Cond.methodLink "Proratehouse" (312 : Nat) ({ cls := "Proratehouse$Clearing", name := "billAt", desc := "(I)LProratehouse$Bill;" } : Jvm.MethodName) ∈ lw_good := lw_g 445 (by decide +kernel) (by decide +kernel)
theorem w_447 : Jvm.Cond.methodLink "ProratehouseLaw" (192 : Nat) ({ cls := "ProratehouseLaw", name := "isBill", desc := "(LProratehouse;[II)Z" } : Jvm.MethodName) ∈ lw_good := lw_g 447 (by decide +kernel) (by decide +kernel)
theorem w_448 : Jvm.Cond.static ({ cls := "ProratehouseLaw", name := "isBill", desc := "(LProratehouse;[II)Z" } : Jvm.MethodName) ∈ lw_good := lw_g 448 (by decide +kernel) (by decide +kernel)
theorem w_449 : Jvm.Cond.code ({ cls := "ProratehouseLaw", name := "isBill", desc := "(LProratehouse;[II)Z" } : Jvm.MethodName) method_33_code (6 : Nat) (Option.some Jvm.ClassFile.FieldType.boolean) ∈ lw_good := lw_g 449 (by decide +kernel) (by decide +kernel)
theorem w_450 : Jvm.Cond.methodLink "ProratehouseLaw" (195 : Nat) ({ cls := "ProratehouseLaw", name := "tells", desc := "(LProratehouse;[III)Z" } : Jvm.MethodName) ∈ lw_good := lw_g 450 (by decide +kernel) (by decide +kernel)
theorem w_451 : Jvm.Cond.static ({ cls := "ProratehouseLaw", name := "tells", desc := "(LProratehouse;[III)Z" } : Jvm.MethodName) ∈ lw_good := lw_g 451 (by decide +kernel) (by decide +kernel)
theorem w_452 : Jvm.Cond.code ({ cls := "ProratehouseLaw", name := "tells", desc := "(LProratehouse;[III)Z" } : Jvm.MethodName) method_34_code (9 : Nat) (Option.some Jvm.ClassFile.FieldType.boolean) ∈ lw_good := lw_g 452 (by decide +kernel) (by decide +kernel)
theorem w_453 : Jvm.Cond.methodLink "ProratehouseLaw" (148 : Nat) ({ cls := "ProratehouseLaw", name := "low", desc := "(II)I" } : Jvm.MethodName) ∈ lw_good := lw_g 453 (by decide +kernel) (by decide +kernel)
theorem w_454 : Jvm.Cond.static ({ cls := "ProratehouseLaw", name := "low", desc := "(II)I" } : Jvm.MethodName) ∈ lw_good := lw_g 454 (by decide +kernel) (by decide +kernel)
theorem w_455 : Jvm.Cond.code ({ cls := "ProratehouseLaw", name := "low", desc := "(II)I" } : Jvm.MethodName) method_3_code (2 : Nat) (Option.some Jvm.ClassFile.FieldType.int) ∈ lw_good := lw_g 455 (by decide +kernel) (by decide +kernel)
theorem w_456 : Jvm.Cond.constant "ProratehouseLaw" (9 : Nat) (2147483647 : Int32) ∈ lw_good := lw_g 456 (by decide +kernel) (by decide +kernel)
theorem w_457 : Jvm.Cond.constant "ProratehouseLaw" (153 : Nat) (50000 : Int32) ∈ lw_good := lw_g 457 (by decide +kernel) (by decide +kernel)
theorem w_458 : Jvm.Cond.methodLink "ProratehouseLaw" (154 : Nat) ({ cls := "ProratehouseLaw", name := "fare", desc := "(LProratehouse;IIIIII)I" } : Jvm.MethodName) ∈ lw_good := lw_g 458 (by decide +kernel) (by decide +kernel)
theorem w_459 : Jvm.Cond.static ({ cls := "ProratehouseLaw", name := "fare", desc := "(LProratehouse;IIIIII)I" } : Jvm.MethodName) ∈ lw_good := lw_g 459 (by decide +kernel) (by decide +kernel)
theorem w_460 : Jvm.Cond.codeWith ({ cls := "ProratehouseLaw", name := "fare", desc := "(LProratehouse;IIIIII)I" } : Jvm.MethodName) method_5_code (8 : Nat) (Option.some Jvm.ClassFile.FieldType.int) [((0 : Nat), (13 : Nat), (14 : Nat), (16 : Nat)), ((0 : Nat), (13 : Nat), (19 : Nat), (19 : Nat)), ((0 : Nat), (13 : Nat), (24 : Nat), (26 : Nat))] ∈ lw_good := lw_g 460 (by decide +kernel) (by decide +kernel)
theorem w_461 : Jvm.Cond.classLink "ProratehouseLaw" (26 : Nat) "java/lang/IllegalStateException" ∈ lw_good := lw_g 461 (by decide +kernel) (by decide +kernel)
theorem w_462 : Jvm.Cond.methodLink "ProratehouseLaw" (22 : Nat) ({ cls := "Proratehouse", name := "fare", desc := "(IIIIII)I" } : Jvm.MethodName) ∈ lw_good := lw_g 462 (by decide +kernel) (by decide +kernel)
theorem w_463 : Jvm.Cond.instanceMethod ({ cls := "Proratehouse", name := "fare", desc := "(IIIIII)I" } : Jvm.MethodName) ∈ lw_good := lw_g 463 (by decide +kernel) (by decide +kernel)
theorem w_464 : Jvm.Cond.selects "Proratehouse" ({ cls := "Proratehouse", name := "fare", desc := "(IIIIII)I" } : Jvm.MethodName) ({ cls := "Proratehouse", name := "fare", desc := "(IIIIII)I" } : Jvm.MethodName) ∈ lw_good := lw_g 464 (by decide +kernel) (by decide +kernel)
theorem w_465 : Jvm.Cond.code ({ cls := "Proratehouse", name := "fare", desc := "(IIIIII)I" } : Jvm.MethodName) prog_1_method_3_code (7 : Nat) (Option.some Jvm.ClassFile.FieldType.int) ∈ lw_good := lw_g 465 (by decide +kernel) (by decide +kernel)
theorem w_466 : Jvm.Cond.constant "Proratehouse" (87 : Nat) (1000000 : Int32) ∈ lw_good := lw_g 466 (by decide +kernel) (by decide +kernel)
theorem w_468 : Jvm.Cond.classLink "Proratehouse" (94 : Nat) "java/lang/IllegalStateException" ∈ lw_good := lw_g 468 (by decide +kernel) (by decide +kernel)
theorem w_469 : Jvm.Cond.instantiable "java/lang/IllegalStateException" (6 : Nat) ∈ lw_good := lw_g 469 (by decide +kernel) (by decide +kernel)
theorem w_471 : Jvm.Cond.selects "java/lang/IllegalStateException" ({ cls := "java/lang/Throwable", name := "fillInStackTrace", desc := "(I)Ljava/lang/Throwable;" } : Jvm.MethodName) ({ cls := "java/lang/Throwable", name := "fillInStackTrace", desc := "(I)Ljava/lang/Throwable;" } : Jvm.MethodName) ∈ lw_good := lw_g 471 (by decide +kernel) (by decide +kernel)
theorem w_478 : Jvm.Cond.methodLink "Proratehouse" (98 : Nat) ({ cls := "java/lang/IllegalStateException", name := "<init>", desc := "(Ljava/lang/String;)V" } : Jvm.MethodName) ∈ lw_good := lw_g 478 (by decide +kernel) (by decide +kernel)
theorem w_479 : Jvm.Cond.instanceMethod ({ cls := "java/lang/IllegalStateException", name := "<init>", desc := "(Ljava/lang/String;)V" } : Jvm.MethodName) ∈ lw_good := lw_g 479 (by decide +kernel) (by decide +kernel)
theorem w_480 : Jvm.Cond.code ({ cls := "java/lang/IllegalStateException", name := "<init>", desc := "(Ljava/lang/String;)V" } : Jvm.MethodName) prog_17_method_2_code (2 : Nat) (Option.none : Option Jvm.ClassFile.FieldType) ∈ lw_good := lw_g 480 (by decide +kernel) (by decide +kernel)
theorem w_481 : Jvm.Cond.methodLink "java/lang/IllegalStateException" (7 : Nat) ({ cls := "java/lang/RuntimeException", name := "<init>", desc := "(Ljava/lang/String;)V" } : Jvm.MethodName) ∈ lw_good := lw_g 481 (by decide +kernel) (by decide +kernel)
theorem w_484 : Jvm.Cond.classLink "Proratehouse" (99 : Nat) "Proratehouse$Fare" ∈ lw_good := lw_g 484 (by decide +kernel) (by decide +kernel)
theorem w_485 : Jvm.Cond.instantiable "Proratehouse$Fare" (7 : Nat) ∈ lw_good := lw_g 485 (by decide +kernel) (by decide +kernel)
theorem w_486 : Jvm.Cond.methodLink "Proratehouse" (101 : Nat) ({ cls := "Proratehouse$Fare", name := "<init>", desc := "(IIIIII)V" } : Jvm.MethodName) ∈ lw_good := lw_g 486 (by decide +kernel) (by decide +kernel)
theorem w_487 : Jvm.Cond.instanceMethod ({ cls := "Proratehouse$Fare", name := "<init>", desc := "(IIIIII)V" } : Jvm.MethodName) ∈ lw_good := lw_g 487 (by decide +kernel) (by decide +kernel)
theorem w_488 : Jvm.Cond.code ({ cls := "Proratehouse$Fare", name := "<init>", desc := "(IIIIII)V" } : Jvm.MethodName) prog_5_method_1_code (7 : Nat) (Option.none : Option Jvm.ClassFile.FieldType) ∈ lw_good := lw_g 488 (by decide +kernel) (by decide +kernel)
theorem w_489 : Jvm.Cond.methodLink "Proratehouse$Fare" (1 : Nat) ({ cls := "java/lang/Object", name := "<init>", desc := "()V" } : Jvm.MethodName) ∈ lw_good := lw_g 489 (by decide +kernel) (by decide +kernel)
theorem w_490 : Jvm.Cond.fieldLink "Proratehouse$Fare" (7 : Nat) "Proratehouse$Fare" "from" "I" ∈ lw_good := lw_g 490 (by decide +kernel) (by decide +kernel)
theorem w_491 : Jvm.Cond.fieldLink "Proratehouse$Fare" (13 : Nat) "Proratehouse$Fare" "to" "I" ∈ lw_good := lw_g 491 (by decide +kernel) (by decide +kernel)
theorem w_492 : Jvm.Cond.fieldLink "Proratehouse$Fare" (16 : Nat) "Proratehouse$Fare" "cents" "I" ∈ lw_good := lw_g 492 (by decide +kernel) (by decide +kernel)
theorem w_493 : Jvm.Cond.fieldLink "Proratehouse$Tariff" (56 : Nat) "Proratehouse$Fare" "cents" "I" ∈ lw_good := lw_g 493 (by decide +kernel) (by decide +kernel)
theorem w_494 : Jvm.Cond.fieldLink "Proratehouse$Fare" (19 : Nat) "Proratehouse$Fare" "first" "I" ∈ lw_good := lw_g 494 (by decide +kernel) (by decide +kernel)
theorem w_495 : Jvm.Cond.fieldLink "Proratehouse$Fare" (22 : Nat) "Proratehouse$Fare" "last" "I" ∈ lw_good := lw_g 495 (by decide +kernel) (by decide +kernel)
theorem w_496 : Jvm.Cond.fieldLink "Proratehouse$Fare" (25 : Nat) "Proratehouse$Fare" "stops" "I" ∈ lw_good := lw_g 496 (by decide +kernel) (by decide +kernel)
theorem w_497 : Jvm.Cond.fieldLink "Proratehouse$Tariff" (53 : Nat) "Proratehouse$Fare" "stops" "I" ∈ lw_good := lw_g 497 (by decide +kernel) (by decide +kernel)
theorem w_498 : Jvm.Cond.fieldLink "Proratehouse$Fare" (28 : Nat) "Proratehouse$Fare" "isWithdrawn" "Z" ∈ lw_good := lw_g 498 (by decide +kernel) (by decide +kernel)
theorem w_514 : Jvm.Cond.methodLink "Proratehouse" (104 : Nat) ({ cls := "Proratehouse$Tariff", name := "file", desc := "(LProratehouse$Fare;)I" } : Jvm.MethodName) ∈ lw_good := lw_g 514 (by decide +kernel) (by decide +kernel)
theorem w_515 : Jvm.Cond.instanceMethod ({ cls := "Proratehouse$Tariff", name := "file", desc := "(LProratehouse$Fare;)I" } : Jvm.MethodName) ∈ lw_good := lw_g 515 (by decide +kernel) (by decide +kernel)
theorem w_516 : Jvm.Cond.selects "Proratehouse$Tariff" ({ cls := "Proratehouse$Tariff", name := "file", desc := "(LProratehouse$Fare;)I" } : Jvm.MethodName) ({ cls := "Proratehouse$Tariff", name := "file", desc := "(LProratehouse$Fare;)I" } : Jvm.MethodName) ∈ lw_good := lw_g 516 (by decide +kernel) (by decide +kernel)
theorem w_517 : Jvm.Cond.code ({ cls := "Proratehouse$Tariff", name := "file", desc := "(LProratehouse$Fare;)I" } : Jvm.MethodName) prog_10_method_2_code (2 : Nat) (Option.some Jvm.ClassFile.FieldType.int) ∈ lw_good := lw_g 517 (by decide +kernel) (by decide +kernel)
theorem w_518 : Jvm.Cond.constant "ProratehouseLaw" (28 : Nat) (-1000003 : Int32) ∈ lw_good := lw_g 518 (by decide +kernel) (by decide +kernel)
theorem w_519 : Jvm.Cond.methodLink "ProratehouseLaw" (157 : Nat) ({ cls := "ProratehouseLaw", name := "tax", desc := "(LProratehouse;III)I" } : Jvm.MethodName) ∈ lw_good := lw_g 519 (by decide +kernel) (by decide +kernel)
theorem w_520 : Jvm.Cond.static ({ cls := "ProratehouseLaw", name := "tax", desc := "(LProratehouse;III)I" } : Jvm.MethodName) ∈ lw_good := lw_g 520 (by decide +kernel) (by decide +kernel)
theorem w_521 : Jvm.Cond.codeWith ({ cls := "ProratehouseLaw", name := "tax", desc := "(LProratehouse;III)I" } : Jvm.MethodName) method_8_code (5 : Nat) (Option.some Jvm.ClassFile.FieldType.int) [((0 : Nat), (8 : Nat), (9 : Nat), (16 : Nat)), ((0 : Nat), (8 : Nat), (14 : Nat), (19 : Nat))] ∈ lw_good := lw_g 521 (by decide +kernel) (by decide +kernel)
theorem w_522 : Jvm.Cond.methodLink "ProratehouseLaw" (37 : Nat) ({ cls := "Proratehouse", name := "tax", desc := "(III)V" } : Jvm.MethodName) ∈ lw_good := lw_g 522 (by decide +kernel) (by decide +kernel)
theorem w_523 : Jvm.Cond.instanceMethod ({ cls := "Proratehouse", name := "tax", desc := "(III)V" } : Jvm.MethodName) ∈ lw_good := lw_g 523 (by decide +kernel) (by decide +kernel)
theorem w_524 : Jvm.Cond.selects "Proratehouse" ({ cls := "Proratehouse", name := "tax", desc := "(III)V" } : Jvm.MethodName) ({ cls := "Proratehouse", name := "tax", desc := "(III)V" } : Jvm.MethodName) ∈ lw_good := lw_g 524 (by decide +kernel) (by decide +kernel)
theorem w_525 : Jvm.Cond.code ({ cls := "Proratehouse", name := "tax", desc := "(III)V" } : Jvm.MethodName) prog_1_method_6_code (4 : Nat) (Option.none : Option Jvm.ClassFile.FieldType) ∈ lw_good := lw_g 525 (by decide +kernel) (by decide +kernel)
theorem w_527 : Jvm.Cond.methodLink "Proratehouse" (127 : Nat) ({ cls := "Proratehouse$Tariff", name := "putTaxes", desc := "(III)V" } : Jvm.MethodName) ∈ lw_good := lw_g 527 (by decide +kernel) (by decide +kernel)
theorem w_528 : Jvm.Cond.instanceMethod ({ cls := "Proratehouse$Tariff", name := "putTaxes", desc := "(III)V" } : Jvm.MethodName) ∈ lw_good := lw_g 528 (by decide +kernel) (by decide +kernel)
theorem w_529 : Jvm.Cond.selects "Proratehouse$Tariff" ({ cls := "Proratehouse$Tariff", name := "putTaxes", desc := "(III)V" } : Jvm.MethodName) ({ cls := "Proratehouse$Tariff", name := "putTaxes", desc := "(III)V" } : Jvm.MethodName) ∈ lw_good := lw_g 529 (by decide +kernel) (by decide +kernel)
theorem w_530 : Jvm.Cond.code ({ cls := "Proratehouse$Tariff", name := "putTaxes", desc := "(III)V" } : Jvm.MethodName) prog_10_method_4_code (4 : Nat) (Option.none : Option Jvm.ClassFile.FieldType) ∈ lw_good := lw_g 530 (by decide +kernel) (by decide +kernel)
theorem w_532 : Jvm.Cond.methodLink "ProratehouseLaw" (159 : Nat) ({ cls := "ProratehouseLaw", name := "weight", desc := "(LProratehouse;III)I" } : Jvm.MethodName) ∈ lw_good := lw_g 532 (by decide +kernel) (by decide +kernel)
theorem w_533 : Jvm.Cond.static ({ cls := "ProratehouseLaw", name := "weight", desc := "(LProratehouse;III)I" } : Jvm.MethodName) ∈ lw_good := lw_g 533 (by decide +kernel) (by decide +kernel)
theorem w_534 : Jvm.Cond.codeWith ({ cls := "ProratehouseLaw", name := "weight", desc := "(LProratehouse;III)I" } : Jvm.MethodName) method_9_code (5 : Nat) (Option.some Jvm.ClassFile.FieldType.int) [((0 : Nat), (7 : Nat), (8 : Nat), (16 : Nat)), ((0 : Nat), (7 : Nat), (13 : Nat), (19 : Nat))] ∈ lw_good := lw_g 534 (by decide +kernel) (by decide +kernel)
theorem w_535 : Jvm.Cond.methodLink "ProratehouseLaw" (41 : Nat) ({ cls := "Proratehouse", name := "weight", desc := "(III)I" } : Jvm.MethodName) ∈ lw_good := lw_g 535 (by decide +kernel) (by decide +kernel)
theorem w_536 : Jvm.Cond.instanceMethod ({ cls := "Proratehouse", name := "weight", desc := "(III)I" } : Jvm.MethodName) ∈ lw_good := lw_g 536 (by decide +kernel) (by decide +kernel)
theorem w_537 : Jvm.Cond.selects "Proratehouse" ({ cls := "Proratehouse", name := "weight", desc := "(III)I" } : Jvm.MethodName) ({ cls := "Proratehouse", name := "weight", desc := "(III)I" } : Jvm.MethodName) ∈ lw_good := lw_g 537 (by decide +kernel) (by decide +kernel)
theorem w_538 : Jvm.Cond.code ({ cls := "Proratehouse", name := "weight", desc := "(III)I" } : Jvm.MethodName) prog_1_method_7_code (4 : Nat) (Option.some Jvm.ClassFile.FieldType.int) ∈ lw_good := lw_g 538 (by decide +kernel) (by decide +kernel)
theorem w_540 : Jvm.Cond.methodLink "ProratehouseLaw" (161 : Nat) ({ cls := "ProratehouseLaw", name := "proviso", desc := "(LProratehouse;IIII)I" } : Jvm.MethodName) ∈ lw_good := lw_g 540 (by decide +kernel) (by decide +kernel)
theorem w_541 : Jvm.Cond.static ({ cls := "ProratehouseLaw", name := "proviso", desc := "(LProratehouse;IIII)I" } : Jvm.MethodName) ∈ lw_good := lw_g 541 (by decide +kernel) (by decide +kernel)
theorem w_542 : Jvm.Cond.codeWith ({ cls := "ProratehouseLaw", name := "proviso", desc := "(LProratehouse;IIII)I" } : Jvm.MethodName) method_10_code (6 : Nat) (Option.some Jvm.ClassFile.FieldType.int) [((0 : Nat), (9 : Nat), (10 : Nat), (16 : Nat)), ((0 : Nat), (9 : Nat), (15 : Nat), (19 : Nat))] ∈ lw_good := lw_g 542 (by decide +kernel) (by decide +kernel)
theorem w_543 : Jvm.Cond.methodLink "ProratehouseLaw" (44 : Nat) ({ cls := "Proratehouse", name := "proviso", desc := "(IIII)I" } : Jvm.MethodName) ∈ lw_good := lw_g 543 (by decide +kernel) (by decide +kernel)
theorem w_544 : Jvm.Cond.instanceMethod ({ cls := "Proratehouse", name := "proviso", desc := "(IIII)I" } : Jvm.MethodName) ∈ lw_good := lw_g 544 (by decide +kernel) (by decide +kernel)
theorem w_545 : Jvm.Cond.selects "Proratehouse" ({ cls := "Proratehouse", name := "proviso", desc := "(IIII)I" } : Jvm.MethodName) ({ cls := "Proratehouse", name := "proviso", desc := "(IIII)I" } : Jvm.MethodName) ∈ lw_good := lw_g 545 (by decide +kernel) (by decide +kernel)
theorem w_546 : Jvm.Cond.code ({ cls := "Proratehouse", name := "proviso", desc := "(IIII)I" } : Jvm.MethodName) prog_1_method_8_code (5 : Nat) (Option.some Jvm.ClassFile.FieldType.int) ∈ lw_good := lw_g 546 (by decide +kernel) (by decide +kernel)
theorem w_549 : Jvm.Cond.methodLink "Proratehouse" (143 : Nat) ({ cls := "Proratehouse$Proration", name := "putProviso", desc := "(IIII)I" } : Jvm.MethodName) ∈ lw_good := lw_g 549 (by decide +kernel) (by decide +kernel)
theorem w_550 : Jvm.Cond.instanceMethod ({ cls := "Proratehouse$Proration", name := "putProviso", desc := "(IIII)I" } : Jvm.MethodName) ∈ lw_good := lw_g 550 (by decide +kernel) (by decide +kernel)
theorem w_551 : Jvm.Cond.selects "Proratehouse$Proration" ({ cls := "Proratehouse$Proration", name := "putProviso", desc := "(IIII)I" } : Jvm.MethodName) ({ cls := "Proratehouse$Proration", name := "putProviso", desc := "(IIII)I" } : Jvm.MethodName) ∈ lw_good := lw_g 551 (by decide +kernel) (by decide +kernel)
theorem w_552 : Jvm.Cond.code ({ cls := "Proratehouse$Proration", name := "putProviso", desc := "(IIII)I" } : Jvm.MethodName) prog_9_method_2_code (6 : Nat) (Option.some Jvm.ClassFile.FieldType.int) ∈ lw_good := lw_g 552 (by decide +kernel) (by decide +kernel)
theorem w_553 : Jvm.Cond.methodLink "Proratehouse$Proration" (22 : Nat) ({ cls := "Proratehouse$Proration", name := "provisoOf", desc := "(III)I" } : Jvm.MethodName) ∈ lw_good := lw_g 553 (by decide +kernel) (by decide +kernel)
theorem w_555 : Jvm.Cond.instanceMethod ({ cls := "Proratehouse$Proration", name := "provisoOf", desc := "(III)I" } : Jvm.MethodName) ∈ lw_good := lw_g 555 (by decide +kernel) (by decide +kernel)
theorem w_556 : Jvm.Cond.code ({ cls := "Proratehouse$Proration", name := "provisoOf", desc := "(III)I" } : Jvm.MethodName) prog_9_method_3_code (4 : Nat) (Option.some Jvm.ClassFile.FieldType.int) ∈ lw_good := lw_g 556 (by decide +kernel) (by decide +kernel)
theorem w_559 : Jvm.Cond.methodLink "ProratehouseLaw" (164 : Nat) ({ cls := "ProratehouseLaw", name := "unit", desc := "(LProratehouse;I)I" } : Jvm.MethodName) ∈ lw_good := lw_g 559 (by decide +kernel) (by decide +kernel)
theorem w_560 : Jvm.Cond.static ({ cls := "ProratehouseLaw", name := "unit", desc := "(LProratehouse;I)I" } : Jvm.MethodName) ∈ lw_good := lw_g 560 (by decide +kernel) (by decide +kernel)
theorem w_561 : Jvm.Cond.codeWith ({ cls := "ProratehouseLaw", name := "unit", desc := "(LProratehouse;I)I" } : Jvm.MethodName) method_7_code (3 : Nat) (Option.some Jvm.ClassFile.FieldType.int) [((0 : Nat), (5 : Nat), (6 : Nat), (19 : Nat))] ∈ lw_good := lw_g 561 (by decide +kernel) (by decide +kernel)
theorem w_562 : Jvm.Cond.methodLink "ProratehouseLaw" (33 : Nat) ({ cls := "Proratehouse", name := "unit", desc := "(I)I" } : Jvm.MethodName) ∈ lw_good := lw_g 562 (by decide +kernel) (by decide +kernel)
theorem w_563 : Jvm.Cond.instanceMethod ({ cls := "Proratehouse", name := "unit", desc := "(I)I" } : Jvm.MethodName) ∈ lw_good := lw_g 563 (by decide +kernel) (by decide +kernel)
theorem w_564 : Jvm.Cond.selects "Proratehouse" ({ cls := "Proratehouse", name := "unit", desc := "(I)I" } : Jvm.MethodName) ({ cls := "Proratehouse", name := "unit", desc := "(I)I" } : Jvm.MethodName) ∈ lw_good := lw_g 564 (by decide +kernel) (by decide +kernel)
theorem w_565 : Jvm.Cond.code ({ cls := "Proratehouse", name := "unit", desc := "(I)I" } : Jvm.MethodName) prog_1_method_5_code (3 : Nat) (Option.some Jvm.ClassFile.FieldType.int) ∈ lw_good := lw_g 565 (by decide +kernel) (by decide +kernel)
theorem w_567 : Jvm.Cond.methodLink "ProratehouseLaw" (166 : Nat) ({ cls := "ProratehouseLaw", name := "penalty", desc := "(LProratehouse;I)I" } : Jvm.MethodName) ∈ lw_good := lw_g 567 (by decide +kernel) (by decide +kernel)
theorem w_568 : Jvm.Cond.static ({ cls := "ProratehouseLaw", name := "penalty", desc := "(LProratehouse;I)I" } : Jvm.MethodName) ∈ lw_good := lw_g 568 (by decide +kernel) (by decide +kernel)
theorem w_569 : Jvm.Cond.codeWith ({ cls := "ProratehouseLaw", name := "penalty", desc := "(LProratehouse;I)I" } : Jvm.MethodName) method_11_code (3 : Nat) (Option.some Jvm.ClassFile.FieldType.int) [((0 : Nat), (5 : Nat), (6 : Nat), (19 : Nat))] ∈ lw_good := lw_g 569 (by decide +kernel) (by decide +kernel)
theorem w_570 : Jvm.Cond.methodLink "ProratehouseLaw" (48 : Nat) ({ cls := "Proratehouse", name := "penalty", desc := "(I)I" } : Jvm.MethodName) ∈ lw_good := lw_g 570 (by decide +kernel) (by decide +kernel)
theorem w_571 : Jvm.Cond.instanceMethod ({ cls := "Proratehouse", name := "penalty", desc := "(I)I" } : Jvm.MethodName) ∈ lw_good := lw_g 571 (by decide +kernel) (by decide +kernel)
theorem w_572 : Jvm.Cond.selects "Proratehouse" ({ cls := "Proratehouse", name := "penalty", desc := "(I)I" } : Jvm.MethodName) ({ cls := "Proratehouse", name := "penalty", desc := "(I)I" } : Jvm.MethodName) ∈ lw_good := lw_g 572 (by decide +kernel) (by decide +kernel)
theorem w_573 : Jvm.Cond.code ({ cls := "Proratehouse", name := "penalty", desc := "(I)I" } : Jvm.MethodName) prog_1_method_9_code (3 : Nat) (Option.some Jvm.ClassFile.FieldType.int) ∈ lw_good := lw_g 573 (by decide +kernel) (by decide +kernel)
theorem w_575 : Jvm.Cond.methodLink "ProratehouseLaw" (226 : Nat) ({ cls := "ProratehouseLaw", name := "acts", desc := "(LProratehouse;[I[III)Z" } : Jvm.MethodName) ∈ lw_good := lw_g 575 (by decide +kernel) (by decide +kernel)
theorem w_576 : Jvm.Cond.static ({ cls := "ProratehouseLaw", name := "acts", desc := "(LProratehouse;[I[III)Z" } : Jvm.MethodName) ∈ lw_good := lw_g 576 (by decide +kernel) (by decide +kernel)
theorem w_577 : Jvm.Cond.code ({ cls := "ProratehouseLaw", name := "acts", desc := "(LProratehouse;[I[III)Z" } : Jvm.MethodName) method_39_code (7 : Nat) (Option.some Jvm.ClassFile.FieldType.boolean) ∈ lw_good := lw_g 577 (by decide +kernel) (by decide +kernel)
theorem w_578 : Jvm.Cond.methodLink "ProratehouseLaw" (199 : Nat) ({ cls := "ProratehouseLaw", name := "travels", desc := "(LProratehouse;[I[III)Z" } : Jvm.MethodName) ∈ lw_good := lw_g 578 (by decide +kernel) (by decide +kernel)
theorem w_579 : Jvm.Cond.static ({ cls := "ProratehouseLaw", name := "travels", desc := "(LProratehouse;[I[III)Z" } : Jvm.MethodName) ∈ lw_good := lw_g 579 (by decide +kernel) (by decide +kernel)
theorem w_580 : Jvm.Cond.code ({ cls := "ProratehouseLaw", name := "travels", desc := "(LProratehouse;[I[III)Z" } : Jvm.MethodName) method_35_code (10 : Nat) (Option.some Jvm.ClassFile.FieldType.boolean) ∈ lw_good := lw_g 580 (by decide +kernel) (by decide +kernel)
theorem w_581 : Jvm.Cond.methodLink "ProratehouseLaw" (168 : Nat) ({ cls := "ProratehouseLaw", name := "leg", desc := "(LProratehouse;IIII)I" } : Jvm.MethodName) ∈ lw_good := lw_g 581 (by decide +kernel) (by decide +kernel)
theorem w_582 : Jvm.Cond.static ({ cls := "ProratehouseLaw", name := "leg", desc := "(LProratehouse;IIII)I" } : Jvm.MethodName) ∈ lw_good := lw_g 582 (by decide +kernel) (by decide +kernel)
theorem w_583 : Jvm.Cond.codeWith ({ cls := "ProratehouseLaw", name := "leg", desc := "(LProratehouse;IIII)I" } : Jvm.MethodName) method_12_code (6 : Nat) (Option.some Jvm.ClassFile.FieldType.int) [((0 : Nat), (9 : Nat), (10 : Nat), (16 : Nat)), ((0 : Nat), (9 : Nat), (15 : Nat), (19 : Nat)), ((0 : Nat), (9 : Nat), (20 : Nat), (26 : Nat))] ∈ lw_good := lw_g 583 (by decide +kernel) (by decide +kernel)
theorem w_584 : Jvm.Cond.methodLink "ProratehouseLaw" (51 : Nat) ({ cls := "Proratehouse", name := "leg", desc := "(IIII)I" } : Jvm.MethodName) ∈ lw_good := lw_g 584 (by decide +kernel) (by decide +kernel)
theorem w_585 : Jvm.Cond.instanceMethod ({ cls := "Proratehouse", name := "leg", desc := "(IIII)I" } : Jvm.MethodName) ∈ lw_good := lw_g 585 (by decide +kernel) (by decide +kernel)
theorem w_586 : Jvm.Cond.selects "Proratehouse" ({ cls := "Proratehouse", name := "leg", desc := "(IIII)I" } : Jvm.MethodName) ({ cls := "Proratehouse", name := "leg", desc := "(IIII)I" } : Jvm.MethodName) ∈ lw_good := lw_g 586 (by decide +kernel) (by decide +kernel)
theorem w_587 : Jvm.Cond.code ({ cls := "Proratehouse", name := "leg", desc := "(IIII)I" } : Jvm.MethodName) prog_1_method_10_code (5 : Nat) (Option.some Jvm.ClassFile.FieldType.int) ∈ lw_good := lw_g 587 (by decide +kernel) (by decide +kernel)
theorem w_590 : Jvm.Cond.methodLink "Proratehouse" (159 : Nat) ({ cls := "Proratehouse$Journey", name := "goesOn", desc := "(II)Z" } : Jvm.MethodName) ∈ lw_good := lw_g 590 (by decide +kernel) (by decide +kernel)
theorem w_591 : Jvm.Cond.instanceMethod ({ cls := "Proratehouse$Journey", name := "goesOn", desc := "(II)Z" } : Jvm.MethodName) ∈ lw_good := lw_g 591 (by decide +kernel) (by decide +kernel)
theorem w_592 : Jvm.Cond.selects "Proratehouse$Journey" ({ cls := "Proratehouse$Journey", name := "goesOn", desc := "(II)Z" } : Jvm.MethodName) ({ cls := "Proratehouse$Journey", name := "goesOn", desc := "(II)Z" } : Jvm.MethodName) ∈ lw_good := lw_g 592 (by decide +kernel) (by decide +kernel)
theorem w_593 : Jvm.Cond.code ({ cls := "Proratehouse$Journey", name := "goesOn", desc := "(II)Z" } : Jvm.MethodName) prog_6_method_3_code (4 : Nat) (Option.some Jvm.ClassFile.FieldType.boolean) ∈ lw_good := lw_g 593 (by decide +kernel) (by decide +kernel)
theorem w_594 : Jvm.Cond.methodLink "Proratehouse$Journey" (22 : Nat) ({ cls := "Proratehouse$Journey", name := "legAt", desc := "(I)LProratehouse$Leg;" } : Jvm.MethodName) ∈ lw_good := lw_g 594 (by decide +kernel) (by decide +kernel)
theorem w_595 : Jvm.Cond.instanceMethod ({ cls := "Proratehouse$Journey", name := "legAt", desc := "(I)LProratehouse$Leg;" } : Jvm.MethodName) ∈ lw_good := lw_g 595 (by decide +kernel) (by decide +kernel)
theorem w_596 : Jvm.Cond.selects "Proratehouse$Journey" ({ cls := "Proratehouse$Journey", name := "legAt", desc := "(I)LProratehouse$Leg;" } : Jvm.MethodName) ({ cls := "Proratehouse$Journey", name := "legAt", desc := "(I)LProratehouse$Leg;" } : Jvm.MethodName) ∈ lw_good := lw_g 596 (by decide +kernel) (by decide +kernel)
theorem w_597 : Jvm.Cond.code ({ cls := "Proratehouse$Journey", name := "legAt", desc := "(I)LProratehouse$Leg;" } : Jvm.MethodName) prog_6_method_2_code (2 : Nat) (Option.some (Jvm.ClassFile.FieldType.object "Proratehouse$Leg")) ∈ lw_good := lw_g 597 (by decide +kernel) (by decide +kernel)
theorem w_598 : Jvm.Cond.methodLink "Proratehouse" (163 : Nat) ({ cls := "Proratehouse$Pairs", name := "get", desc := "(II)I" } : Jvm.MethodName) ∈ lw_good := lw_g 598 (by decide +kernel) (by decide +kernel)
theorem w_600 : Jvm.Cond.methodLink "Proratehouse" (169 : Nat) ({ cls := "Proratehouse$Journey", name := "add", desc := "(IIII)I" } : Jvm.MethodName) ∈ lw_good := lw_g 600 (by decide +kernel) (by decide +kernel)
theorem w_601 : Jvm.Cond.instanceMethod ({ cls := "Proratehouse$Journey", name := "add", desc := "(IIII)I" } : Jvm.MethodName) ∈ lw_good := lw_g 601 (by decide +kernel) (by decide +kernel)
theorem w_602 : Jvm.Cond.selects "Proratehouse$Journey" ({ cls := "Proratehouse$Journey", name := "add", desc := "(IIII)I" } : Jvm.MethodName) ({ cls := "Proratehouse$Journey", name := "add", desc := "(IIII)I" } : Jvm.MethodName) ∈ lw_good := lw_g 602 (by decide +kernel) (by decide +kernel)
theorem w_603 : Jvm.Cond.code ({ cls := "Proratehouse$Journey", name := "add", desc := "(IIII)I" } : Jvm.MethodName) prog_6_method_4_code (6 : Nat) (Option.some Jvm.ClassFile.FieldType.int) ∈ lw_good := lw_g 603 (by decide +kernel) (by decide +kernel)
theorem w_604 : Jvm.Cond.methodLink "ProratehouseLaw" (203 : Nat) ({ cls := "ProratehouseLaw", name := "isWay", desc := "(LProratehouse;[I)Z" } : Jvm.MethodName) ∈ lw_good := lw_g 604 (by decide +kernel) (by decide +kernel)
theorem w_605 : Jvm.Cond.static ({ cls := "ProratehouseLaw", name := "isWay", desc := "(LProratehouse;[I)Z" } : Jvm.MethodName) ∈ lw_good := lw_g 605 (by decide +kernel) (by decide +kernel)
theorem w_606 : Jvm.Cond.code ({ cls := "ProratehouseLaw", name := "isWay", desc := "(LProratehouse;[I)Z" } : Jvm.MethodName) method_31_code (9 : Nat) (Option.some Jvm.ClassFile.FieldType.boolean) ∈ lw_good := lw_g 606 (by decide +kernel) (by decide +kernel)
theorem w_607 : Jvm.Cond.methodLink "ProratehouseLaw" (126 : Nat) ({ cls := "Proratehouse", name := "price", desc := "()I" } : Jvm.MethodName) ∈ lw_good := lw_g 607 (by decide +kernel) (by decide +kernel)
theorem w_608 : Jvm.Cond.instanceMethod ({ cls := "Proratehouse", name := "price", desc := "()I" } : Jvm.MethodName) ∈ lw_good := lw_g 608 (by decide +kernel) (by decide +kernel)
theorem w_609 : Jvm.Cond.selects "Proratehouse" ({ cls := "Proratehouse", name := "price", desc := "()I" } : Jvm.MethodName) ({ cls := "Proratehouse", name := "price", desc := "()I" } : Jvm.MethodName) ∈ lw_good := lw_g 609 (by decide +kernel) (by decide +kernel)
theorem w_610 : Jvm.Cond.code ({ cls := "Proratehouse", name := "price", desc := "()I" } : Jvm.MethodName) prog_1_method_13_code (1 : Nat) (Option.some Jvm.ClassFile.FieldType.int) ∈ lw_good := lw_g 610 (by decide +kernel) (by decide +kernel)
theorem w_611 : Jvm.Cond.methodLink "Proratehouse" (187 : Nat) ({ cls := "Proratehouse$Ways", name := "findLeast", desc := "(LProratehouse$Journey;LProratehouse$Tariff;)V" } : Jvm.MethodName) ∈ lw_good := lw_g 611 (by decide +kernel) (by decide +kernel)
theorem w_612 : Jvm.Cond.instanceMethod ({ cls := "Proratehouse$Ways", name := "findLeast", desc := "(LProratehouse$Journey;LProratehouse$Tariff;)V" } : Jvm.MethodName) ∈ lw_good := lw_g 612 (by decide +kernel) (by decide +kernel)
theorem w_613 : Jvm.Cond.selects "Proratehouse$Ways" ({ cls := "Proratehouse$Ways", name := "findLeast", desc := "(LProratehouse$Journey;LProratehouse$Tariff;)V" } : Jvm.MethodName) ({ cls := "Proratehouse$Ways", name := "findLeast", desc := "(LProratehouse$Journey;LProratehouse$Tariff;)V" } : Jvm.MethodName) ∈ lw_good := lw_g 613 (by decide +kernel) (by decide +kernel)
theorem w_614 : Jvm.Cond.code ({ cls := "Proratehouse$Ways", name := "findLeast", desc := "(LProratehouse$Journey;LProratehouse$Tariff;)V" } : Jvm.MethodName) prog_12_method_2_code (5 : Nat) (Option.none : Option Jvm.ClassFile.FieldType) ∈ lw_good := lw_g 614 (by decide +kernel) (by decide +kernel)
theorem w_615 : Jvm.Cond.methodLink "Proratehouse$Ways" (33 : Nat) ({ cls := "Proratehouse$Journey", name := "priceOfPart", desc := "(LProratehouse$Tariff;II)I" } : Jvm.MethodName) ∈ lw_good := lw_g 615 (by decide +kernel) (by decide +kernel)
theorem w_616 : Jvm.Cond.instanceMethod ({ cls := "Proratehouse$Journey", name := "priceOfPart", desc := "(LProratehouse$Tariff;II)I" } : Jvm.MethodName) ∈ lw_good := lw_g 616 (by decide +kernel) (by decide +kernel)
theorem w_617 : Jvm.Cond.selects "Proratehouse$Journey" ({ cls := "Proratehouse$Journey", name := "priceOfPart", desc := "(LProratehouse$Tariff;II)I" } : Jvm.MethodName) ({ cls := "Proratehouse$Journey", name := "priceOfPart", desc := "(LProratehouse$Tariff;II)I" } : Jvm.MethodName) ∈ lw_good := lw_g 617 (by decide +kernel) (by decide +kernel)
theorem w_618 : Jvm.Cond.code ({ cls := "Proratehouse$Journey", name := "priceOfPart", desc := "(LProratehouse$Tariff;II)I" } : Jvm.MethodName) prog_6_method_10_code (8 : Nat) (Option.some Jvm.ClassFile.FieldType.int) ∈ lw_good := lw_g 618 (by decide +kernel) (by decide +kernel)
theorem w_619 : Jvm.Cond.methodLink "Proratehouse$Journey" (42 : Nat) ({ cls := "Proratehouse$Journey", name := "placeAt", desc := "(I)I" } : Jvm.MethodName) ∈ lw_good := lw_g 619 (by decide +kernel) (by decide +kernel)
theorem w_620 : Jvm.Cond.instanceMethod ({ cls := "Proratehouse$Journey", name := "placeAt", desc := "(I)I" } : Jvm.MethodName) ∈ lw_good := lw_g 620 (by decide +kernel) (by decide +kernel)
theorem w_621 : Jvm.Cond.selects "Proratehouse$Journey" ({ cls := "Proratehouse$Journey", name := "placeAt", desc := "(I)I" } : Jvm.MethodName) ({ cls := "Proratehouse$Journey", name := "placeAt", desc := "(I)I" } : Jvm.MethodName) ∈ lw_good := lw_g 621 (by decide +kernel) (by decide +kernel)
theorem w_622 : Jvm.Cond.code ({ cls := "Proratehouse$Journey", name := "placeAt", desc := "(I)I" } : Jvm.MethodName) prog_6_method_8_code (3 : Nat) (Option.some Jvm.ClassFile.FieldType.int) ∈ lw_good := lw_g 622 (by decide +kernel) (by decide +kernel)
theorem w_623 : Jvm.Cond.methodLink "Proratehouse$Journey" (46 : Nat) ({ cls := "Proratehouse$Tariff", name := "lowestFare", desc := "(III)I" } : Jvm.MethodName) ∈ lw_good := lw_g 623 (by decide +kernel) (by decide +kernel)
theorem w_624 : Jvm.Cond.instanceMethod ({ cls := "Proratehouse$Tariff", name := "lowestFare", desc := "(III)I" } : Jvm.MethodName) ∈ lw_good := lw_g 624 (by decide +kernel) (by decide +kernel)
theorem w_625 : Jvm.Cond.selects "Proratehouse$Tariff" ({ cls := "Proratehouse$Tariff", name := "lowestFare", desc := "(III)I" } : Jvm.MethodName) ({ cls := "Proratehouse$Tariff", name := "lowestFare", desc := "(III)I" } : Jvm.MethodName) ∈ lw_good := lw_g 625 (by decide +kernel) (by decide +kernel)
theorem w_626 : Jvm.Cond.code ({ cls := "Proratehouse$Tariff", name := "lowestFare", desc := "(III)I" } : Jvm.MethodName) prog_10_method_6_code (7 : Nat) (Option.some Jvm.ClassFile.FieldType.int) ∈ lw_good := lw_g 626 (by decide +kernel) (by decide +kernel)
theorem w_627 : Jvm.Cond.methodLink "Proratehouse$Tariff" (42 : Nat) ({ cls := "Proratehouse$Tariff", name := "fareAt", desc := "(I)LProratehouse$Fare;" } : Jvm.MethodName) ∈ lw_good := lw_g 627 (by decide +kernel) (by decide +kernel)
theorem w_628 : Jvm.Cond.instanceMethod ({ cls := "Proratehouse$Tariff", name := "fareAt", desc := "(I)LProratehouse$Fare;" } : Jvm.MethodName) ∈ lw_good := lw_g 628 (by decide +kernel) (by decide +kernel)
theorem w_629 : Jvm.Cond.selects "Proratehouse$Tariff" ({ cls := "Proratehouse$Tariff", name := "fareAt", desc := "(I)LProratehouse$Fare;" } : Jvm.MethodName) ({ cls := "Proratehouse$Tariff", name := "fareAt", desc := "(I)LProratehouse$Fare;" } : Jvm.MethodName) ∈ lw_good := lw_g 629 (by decide +kernel) (by decide +kernel)
theorem w_630 : Jvm.Cond.code ({ cls := "Proratehouse$Tariff", name := "fareAt", desc := "(I)LProratehouse$Fare;" } : Jvm.MethodName) prog_10_method_3_code (3 : Nat) (Option.some (Jvm.ClassFile.FieldType.object "Proratehouse$Fare")) ∈ lw_good := lw_g 630 (by decide +kernel) (by decide +kernel)
theorem w_631 : Jvm.Cond.methodLink "Proratehouse$Tariff" (49 : Nat) ({ cls := "Proratehouse$Fare", name := "isFor", desc := "(III)Z" } : Jvm.MethodName) ∈ lw_good := lw_g 631 (by decide +kernel) (by decide +kernel)
theorem w_632 : Jvm.Cond.instanceMethod ({ cls := "Proratehouse$Fare", name := "isFor", desc := "(III)Z" } : Jvm.MethodName) ∈ lw_good := lw_g 632 (by decide +kernel) (by decide +kernel)
theorem w_633 : Jvm.Cond.selects "Proratehouse$Fare" ({ cls := "Proratehouse$Fare", name := "isFor", desc := "(III)Z" } : Jvm.MethodName) ({ cls := "Proratehouse$Fare", name := "isFor", desc := "(III)Z" } : Jvm.MethodName) ∈ lw_good := lw_g 633 (by decide +kernel) (by decide +kernel)
theorem w_634 : Jvm.Cond.code ({ cls := "Proratehouse$Fare", name := "isFor", desc := "(III)Z" } : Jvm.MethodName) prog_5_method_2_code (4 : Nat) (Option.some Jvm.ClassFile.FieldType.boolean) ∈ lw_good := lw_g 634 (by decide +kernel) (by decide +kernel)
theorem w_635 : Jvm.Cond.methodLink "Proratehouse$Journey" (52 : Nat) ({ cls := "Proratehouse$Journey", name := "stopsBetween", desc := "(II)I" } : Jvm.MethodName) ∈ lw_good := lw_g 635 (by decide +kernel) (by decide +kernel)
theorem w_637 : Jvm.Cond.instanceMethod ({ cls := "Proratehouse$Journey", name := "stopsBetween", desc := "(II)I" } : Jvm.MethodName) ∈ lw_good := lw_g 637 (by decide +kernel) (by decide +kernel)
theorem w_638 : Jvm.Cond.code ({ cls := "Proratehouse$Journey", name := "stopsBetween", desc := "(II)I" } : Jvm.MethodName) prog_6_method_11_code (5 : Nat) (Option.some Jvm.ClassFile.FieldType.int) ∈ lw_good := lw_g 638 (by decide +kernel) (by decide +kernel)
theorem w_639 : Jvm.Cond.methodLink "Proratehouse$Journey" (79 : Nat) ({ cls := "Proratehouse$Journey", name := "isStop", desc := "(I)Z" } : Jvm.MethodName) ∈ lw_good := lw_g 639 (by decide +kernel) (by decide +kernel)
theorem w_640 : Jvm.Cond.instanceMethod ({ cls := "Proratehouse$Journey", name := "isStop", desc := "(I)Z" } : Jvm.MethodName) ∈ lw_good := lw_g 640 (by decide +kernel) (by decide +kernel)
theorem w_641 : Jvm.Cond.selects "Proratehouse$Journey" ({ cls := "Proratehouse$Journey", name := "isStop", desc := "(I)Z" } : Jvm.MethodName) ({ cls := "Proratehouse$Journey", name := "isStop", desc := "(I)Z" } : Jvm.MethodName) ∈ lw_good := lw_g 641 (by decide +kernel) (by decide +kernel)
theorem w_642 : Jvm.Cond.code ({ cls := "Proratehouse$Journey", name := "isStop", desc := "(I)Z" } : Jvm.MethodName) prog_6_method_9_code (4 : Nat) (Option.some Jvm.ClassFile.FieldType.boolean) ∈ lw_good := lw_g 642 (by decide +kernel) (by decide +kernel)
theorem w_643 : Jvm.Cond.methodLink "Proratehouse$Journey" (60 : Nat) ({ cls := "Proratehouse$Journey", name := "milesOfLegs", desc := "(LProratehouse$Pairs;II)I" } : Jvm.MethodName) ∈ lw_good := lw_g 643 (by decide +kernel) (by decide +kernel)
theorem w_645 : Jvm.Cond.instanceMethod ({ cls := "Proratehouse$Journey", name := "milesOfLegs", desc := "(LProratehouse$Pairs;II)I" } : Jvm.MethodName) ∈ lw_good := lw_g 645 (by decide +kernel) (by decide +kernel)
theorem w_646 : Jvm.Cond.code ({ cls := "Proratehouse$Journey", name := "milesOfLegs", desc := "(LProratehouse$Pairs;II)I" } : Jvm.MethodName) prog_6_method_12_code (7 : Nat) (Option.some Jvm.ClassFile.FieldType.int) ∈ lw_good := lw_g 646 (by decide +kernel) (by decide +kernel)
theorem w_647 : Jvm.Cond.methodLink "Proratehouse$Journey" (83 : Nat) ({ cls := "Proratehouse$Pairs", name := "get", desc := "(II)I" } : Jvm.MethodName) ∈ lw_good := lw_g 647 (by decide +kernel) (by decide +kernel)
theorem w_648 : Jvm.Cond.methodLink "Proratehouse$Journey" (64 : Nat) ({ cls := "Proratehouse$Tariff", name := "surcharge", desc := "(III)I" } : Jvm.MethodName) ∈ lw_good := lw_g 648 (by decide +kernel) (by decide +kernel)
theorem w_649 : Jvm.Cond.instanceMethod ({ cls := "Proratehouse$Tariff", name := "surcharge", desc := "(III)I" } : Jvm.MethodName) ∈ lw_good := lw_g 649 (by decide +kernel) (by decide +kernel)
theorem w_650 : Jvm.Cond.selects "Proratehouse$Tariff" ({ cls := "Proratehouse$Tariff", name := "surcharge", desc := "(III)I" } : Jvm.MethodName) ({ cls := "Proratehouse$Tariff", name := "surcharge", desc := "(III)I" } : Jvm.MethodName) ∈ lw_good := lw_g 650 (by decide +kernel) (by decide +kernel)
theorem w_651 : Jvm.Cond.code ({ cls := "Proratehouse$Tariff", name := "surcharge", desc := "(III)I" } : Jvm.MethodName) prog_10_method_7_code (7 : Nat) (Option.some Jvm.ClassFile.FieldType.int) ∈ lw_good := lw_g 651 (by decide +kernel) (by decide +kernel)
theorem w_652 : Jvm.Cond.methodLink "Proratehouse$Tariff" (59 : Nat) ({ cls := "Proratehouse$Pairs", name := "get", desc := "(II)I" } : Jvm.MethodName) ∈ lw_good := lw_g 652 (by decide +kernel) (by decide +kernel)
theorem w_653 : Jvm.Cond.methodLink "Proratehouse$Journey" (67 : Nat) ({ cls := "Proratehouse$Journey", name := "highestBetween", desc := "(LProratehouse$Tariff;II)I" } : Jvm.MethodName) ∈ lw_good := lw_g 653 (by decide +kernel) (by decide +kernel)
theorem w_655 : Jvm.Cond.instanceMethod ({ cls := "Proratehouse$Journey", name := "highestBetween", desc := "(LProratehouse$Tariff;II)I" } : Jvm.MethodName) ∈ lw_good := lw_g 655 (by decide +kernel) (by decide +kernel)
theorem w_656 : Jvm.Cond.code ({ cls := "Proratehouse$Journey", name := "highestBetween", desc := "(LProratehouse$Tariff;II)I" } : Jvm.MethodName) prog_6_method_13_code (6 : Nat) (Option.some Jvm.ClassFile.FieldType.int) ∈ lw_good := lw_g 656 (by decide +kernel) (by decide +kernel)
theorem w_657 : Jvm.Cond.methodLink "Proratehouse$Journey" (71 : Nat) ({ cls := "java/lang/Math", name := "max", desc := "(II)I" } : Jvm.MethodName) ∈ lw_good := lw_g 657 (by decide +kernel) (by decide +kernel)
theorem w_658 : Jvm.Cond.static ({ cls := "java/lang/Math", name := "max", desc := "(II)I" } : Jvm.MethodName) ∈ lw_good := lw_g 658 (by decide +kernel) (by decide +kernel)
theorem w_659 : Jvm.Cond.code ({ cls := "java/lang/Math", name := "max", desc := "(II)I" } : Jvm.MethodName) prog_19_method_65_code (2 : Nat) (Option.some Jvm.ClassFile.FieldType.int) ∈ lw_good := lw_g 659 (by decide +kernel) (by decide +kernel)
theorem w_660 : Jvm.Cond.methodLink "Proratehouse$Journey" (76 : Nat) ({ cls := "Proratehouse$Tariff", name := "roundedUp", desc := "(II)I" } : Jvm.MethodName) ∈ lw_good := lw_g 660 (by decide +kernel) (by decide +kernel)
theorem w_661 : Jvm.Cond.instanceMethod ({ cls := "Proratehouse$Tariff", name := "roundedUp", desc := "(II)I" } : Jvm.MethodName) ∈ lw_good := lw_g 661 (by decide +kernel) (by decide +kernel)
theorem w_662 : Jvm.Cond.selects "Proratehouse$Tariff" ({ cls := "Proratehouse$Tariff", name := "roundedUp", desc := "(II)I" } : Jvm.MethodName) ({ cls := "Proratehouse$Tariff", name := "roundedUp", desc := "(II)I" } : Jvm.MethodName) ∈ lw_good := lw_g 662 (by decide +kernel) (by decide +kernel)
theorem w_663 : Jvm.Cond.code ({ cls := "Proratehouse$Tariff", name := "roundedUp", desc := "(II)I" } : Jvm.MethodName) prog_10_method_8_code (7 : Nat) (Option.some Jvm.ClassFile.FieldType.int) ∈ lw_good := lw_g 663 (by decide +kernel) (by decide +kernel)
theorem w_664 : Jvm.Cond.constantLong "Proratehouse$Tariff" (63 : Nat) (100 : Int64) ∈ lw_good := lw_g 664 (by decide +kernel) (by decide +kernel)
theorem w_665 : Jvm.Cond.methodLink "Proratehouse$Ways" (37 : Nat) ({ cls := "Proratehouse$Ways", name := "goOn", desc := "(III)V" } : Jvm.MethodName) ∈ lw_good := lw_g 665 (by decide +kernel) (by decide +kernel)
theorem w_667 : Jvm.Cond.instanceMethod ({ cls := "Proratehouse$Ways", name := "goOn", desc := "(III)V" } : Jvm.MethodName) ∈ lw_good := lw_g 667 (by decide +kernel) (by decide +kernel)
theorem w_668 : Jvm.Cond.code ({ cls := "Proratehouse$Ways", name := "goOn", desc := "(III)V" } : Jvm.MethodName) prog_12_method_3_code (5 : Nat) (Option.none : Option Jvm.ClassFile.FieldType) ∈ lw_good := lw_g 668 (by decide +kernel) (by decide +kernel)
theorem w_670 : Jvm.Cond.methodLink "ProratehouseLaw" (130 : Nat) ({ cls := "Proratehouse", name := "cuts", desc := "()I" } : Jvm.MethodName) ∈ lw_good := lw_g 670 (by decide +kernel) (by decide +kernel)
theorem w_671 : Jvm.Cond.instanceMethod ({ cls := "Proratehouse", name := "cuts", desc := "()I" } : Jvm.MethodName) ∈ lw_good := lw_g 671 (by decide +kernel) (by decide +kernel)
theorem w_672 : Jvm.Cond.selects "Proratehouse" ({ cls := "Proratehouse", name := "cuts", desc := "()I" } : Jvm.MethodName) ({ cls := "Proratehouse", name := "cuts", desc := "()I" } : Jvm.MethodName) ∈ lw_good := lw_g 672 (by decide +kernel) (by decide +kernel)
theorem w_673 : Jvm.Cond.code ({ cls := "Proratehouse", name := "cuts", desc := "()I" } : Jvm.MethodName) prog_1_method_15_code (1 : Nat) (Option.some Jvm.ClassFile.FieldType.int) ∈ lw_good := lw_g 673 (by decide +kernel) (by decide +kernel)
theorem w_674 : Jvm.Cond.methodLink "ProratehouseLaw" (133 : Nat) ({ cls := "Proratehouse", name := "priceAnew", desc := "()I" } : Jvm.MethodName) ∈ lw_good := lw_g 674 (by decide +kernel) (by decide +kernel)
theorem w_675 : Jvm.Cond.instanceMethod ({ cls := "Proratehouse", name := "priceAnew", desc := "()I" } : Jvm.MethodName) ∈ lw_good := lw_g 675 (by decide +kernel) (by decide +kernel)
theorem w_676 : Jvm.Cond.selects "Proratehouse" ({ cls := "Proratehouse", name := "priceAnew", desc := "()I" } : Jvm.MethodName) ({ cls := "Proratehouse", name := "priceAnew", desc := "()I" } : Jvm.MethodName) ∈ lw_good := lw_g 676 (by decide +kernel) (by decide +kernel)
theorem w_677 : Jvm.Cond.code ({ cls := "Proratehouse", name := "priceAnew", desc := "()I" } : Jvm.MethodName) prog_1_method_14_code (1 : Nat) (Option.some Jvm.ClassFile.FieldType.int) ∈ lw_good := lw_g 677 (by decide +kernel) (by decide +kernel)
theorem w_678 : Jvm.Cond.methodLink "Proratehouse" (194 : Nat) ({ cls := "Proratehouse$Ways", name := "leastOfAllSets", desc := "(LProratehouse$Journey;LProratehouse$Tariff;)I" } : Jvm.MethodName) ∈ lw_good := lw_g 678 (by decide +kernel) (by decide +kernel)
theorem w_679 : Jvm.Cond.instanceMethod ({ cls := "Proratehouse$Ways", name := "leastOfAllSets", desc := "(LProratehouse$Journey;LProratehouse$Tariff;)I" } : Jvm.MethodName) ∈ lw_good := lw_g 679 (by decide +kernel) (by decide +kernel)
theorem w_680 : Jvm.Cond.selects "Proratehouse$Ways" ({ cls := "Proratehouse$Ways", name := "leastOfAllSets", desc := "(LProratehouse$Journey;LProratehouse$Tariff;)I" } : Jvm.MethodName) ({ cls := "Proratehouse$Ways", name := "leastOfAllSets", desc := "(LProratehouse$Journey;LProratehouse$Tariff;)I" } : Jvm.MethodName) ∈ lw_good := lw_g 680 (by decide +kernel) (by decide +kernel)
theorem w_681 : Jvm.Cond.code ({ cls := "Proratehouse$Ways", name := "leastOfAllSets", desc := "(LProratehouse$Journey;LProratehouse$Tariff;)I" } : Jvm.MethodName) prog_12_method_4_code (7 : Nat) (Option.some Jvm.ClassFile.FieldType.int) ∈ lw_good := lw_g 681 (by decide +kernel) (by decide +kernel)
theorem w_682 : Jvm.Cond.methodLink "Proratehouse$Ways" (45 : Nat) ({ cls := "Proratehouse$Ways", name := "sumOfSet", desc := "(II)I" } : Jvm.MethodName) ∈ lw_good := lw_g 682 (by decide +kernel) (by decide +kernel)
theorem w_684 : Jvm.Cond.instanceMethod ({ cls := "Proratehouse$Ways", name := "sumOfSet", desc := "(II)I" } : Jvm.MethodName) ∈ lw_good := lw_g 684 (by decide +kernel) (by decide +kernel)
theorem w_685 : Jvm.Cond.code ({ cls := "Proratehouse$Ways", name := "sumOfSet", desc := "(II)I" } : Jvm.MethodName) prog_12_method_5_code (8 : Nat) (Option.some Jvm.ClassFile.FieldType.int) ∈ lw_good := lw_g 685 (by decide +kernel) (by decide +kernel)
theorem w_686 : Jvm.Cond.methodLink "ProratehouseLaw" (136 : Nat) ({ cls := "ProratehouseLaw", name := "part", desc := "(LProratehouse;II)I" } : Jvm.MethodName) ∈ lw_good := lw_g 686 (by decide +kernel) (by decide +kernel)
theorem w_687 : Jvm.Cond.static ({ cls := "ProratehouseLaw", name := "part", desc := "(LProratehouse;II)I" } : Jvm.MethodName) ∈ lw_good := lw_g 687 (by decide +kernel) (by decide +kernel)
theorem w_688 : Jvm.Cond.codeWith ({ cls := "ProratehouseLaw", name := "part", desc := "(LProratehouse;II)I" } : Jvm.MethodName) method_13_code (4 : Nat) (Option.some Jvm.ClassFile.FieldType.int) [((0 : Nat), (6 : Nat), (7 : Nat), (16 : Nat)), ((0 : Nat), (6 : Nat), (11 : Nat), (19 : Nat))] ∈ lw_good := lw_g 688 (by decide +kernel) (by decide +kernel)
theorem w_689 : Jvm.Cond.methodLink "ProratehouseLaw" (54 : Nat) ({ cls := "Proratehouse", name := "part", desc := "(II)I" } : Jvm.MethodName) ∈ lw_good := lw_g 689 (by decide +kernel) (by decide +kernel)
theorem w_690 : Jvm.Cond.instanceMethod ({ cls := "Proratehouse", name := "part", desc := "(II)I" } : Jvm.MethodName) ∈ lw_good := lw_g 690 (by decide +kernel) (by decide +kernel)
theorem w_691 : Jvm.Cond.selects "Proratehouse" ({ cls := "Proratehouse", name := "part", desc := "(II)I" } : Jvm.MethodName) ({ cls := "Proratehouse", name := "part", desc := "(II)I" } : Jvm.MethodName) ∈ lw_good := lw_g 691 (by decide +kernel) (by decide +kernel)
theorem w_692 : Jvm.Cond.code ({ cls := "Proratehouse", name := "part", desc := "(II)I" } : Jvm.MethodName) prog_1_method_12_code (3 : Nat) (Option.some Jvm.ClassFile.FieldType.int) ∈ lw_good := lw_g 692 (by decide +kernel) (by decide +kernel)
theorem w_693 : Jvm.Cond.methodLink "Proratehouse" (176 : Nat) ({ cls := "Proratehouse$Journey", name := "isPoint", desc := "(I)Z" } : Jvm.MethodName) ∈ lw_good := lw_g 693 (by decide +kernel) (by decide +kernel)
theorem w_694 : Jvm.Cond.instanceMethod ({ cls := "Proratehouse$Journey", name := "isPoint", desc := "(I)Z" } : Jvm.MethodName) ∈ lw_good := lw_g 694 (by decide +kernel) (by decide +kernel)
theorem w_695 : Jvm.Cond.selects "Proratehouse$Journey" ({ cls := "Proratehouse$Journey", name := "isPoint", desc := "(I)Z" } : Jvm.MethodName) ({ cls := "Proratehouse$Journey", name := "isPoint", desc := "(I)Z" } : Jvm.MethodName) ∈ lw_good := lw_g 695 (by decide +kernel) (by decide +kernel)
theorem w_696 : Jvm.Cond.code ({ cls := "Proratehouse$Journey", name := "isPoint", desc := "(I)Z" } : Jvm.MethodName) prog_6_method_7_code (2 : Nat) (Option.some Jvm.ClassFile.FieldType.boolean) ∈ lw_good := lw_g 696 (by decide +kernel) (by decide +kernel)
theorem w_700 : Jvm.Cond.methodLink "Proratehouse" (183 : Nat) ({ cls := "Proratehouse$Journey", name := "priceOfPart", desc := "(LProratehouse$Tariff;II)I" } : Jvm.MethodName) ∈ lw_good := lw_g 700 (by decide +kernel) (by decide +kernel)
theorem w_701 : Jvm.Cond.methodLink "ProratehouseLaw" (139 : Nat) ({ cls := "ProratehouseLaw", name := "issue", desc := "(LProratehouse;I)I" } : Jvm.MethodName) ∈ lw_good := lw_g 701 (by decide +kernel) (by decide +kernel)
theorem w_702 : Jvm.Cond.static ({ cls := "ProratehouseLaw", name := "issue", desc := "(LProratehouse;I)I" } : Jvm.MethodName) ∈ lw_good := lw_g 702 (by decide +kernel) (by decide +kernel)
theorem w_703 : Jvm.Cond.codeWith ({ cls := "ProratehouseLaw", name := "issue", desc := "(LProratehouse;I)I" } : Jvm.MethodName) method_14_code (3 : Nat) (Option.some Jvm.ClassFile.FieldType.int) [((0 : Nat), (5 : Nat), (6 : Nat), (16 : Nat)), ((0 : Nat), (5 : Nat), (10 : Nat), (26 : Nat))] ∈ lw_good := lw_g 703 (by decide +kernel) (by decide +kernel)
theorem w_704 : Jvm.Cond.methodLink "ProratehouseLaw" (58 : Nat) ({ cls := "Proratehouse", name := "issue", desc := "(I)I" } : Jvm.MethodName) ∈ lw_good := lw_g 704 (by decide +kernel) (by decide +kernel)
theorem w_705 : Jvm.Cond.instanceMethod ({ cls := "Proratehouse", name := "issue", desc := "(I)I" } : Jvm.MethodName) ∈ lw_good := lw_g 705 (by decide +kernel) (by decide +kernel)
theorem w_706 : Jvm.Cond.selects "Proratehouse" ({ cls := "Proratehouse", name := "issue", desc := "(I)I" } : Jvm.MethodName) ({ cls := "Proratehouse", name := "issue", desc := "(I)I" } : Jvm.MethodName) ∈ lw_good := lw_g 706 (by decide +kernel) (by decide +kernel)
theorem w_707 : Jvm.Cond.code ({ cls := "Proratehouse", name := "issue", desc := "(I)I" } : Jvm.MethodName) prog_1_method_16_code (3 : Nat) (Option.some Jvm.ClassFile.FieldType.int) ∈ lw_good := lw_g 707 (by decide +kernel) (by decide +kernel)
theorem w_708 : Jvm.Cond.methodLink "Proratehouse" (203 : Nat) ({ cls := "Proratehouse", name := "canBeIssued", desc := "()Z" } : Jvm.MethodName) ∈ lw_good := lw_g 708 (by decide +kernel) (by decide +kernel)
theorem w_710 : Jvm.Cond.instanceMethod ({ cls := "Proratehouse", name := "canBeIssued", desc := "()Z" } : Jvm.MethodName) ∈ lw_good := lw_g 710 (by decide +kernel) (by decide +kernel)
theorem w_711 : Jvm.Cond.code ({ cls := "Proratehouse", name := "canBeIssued", desc := "()Z" } : Jvm.MethodName) prog_1_method_38_code (1 : Nat) (Option.some Jvm.ClassFile.FieldType.boolean) ∈ lw_good := lw_g 711 (by decide +kernel) (by decide +kernel)
theorem w_712 : Jvm.Cond.methodLink "Proratehouse" (381 : Nat) ({ cls := "Proratehouse$Journey", name := "hasLegBefore", desc := "(I)Z" } : Jvm.MethodName) ∈ lw_good := lw_g 712 (by decide +kernel) (by decide +kernel)
theorem w_713 : Jvm.Cond.instanceMethod ({ cls := "Proratehouse$Journey", name := "hasLegBefore", desc := "(I)Z" } : Jvm.MethodName) ∈ lw_good := lw_g 713 (by decide +kernel) (by decide +kernel)
theorem w_714 : Jvm.Cond.selects "Proratehouse$Journey" ({ cls := "Proratehouse$Journey", name := "hasLegBefore", desc := "(I)Z" } : Jvm.MethodName) ({ cls := "Proratehouse$Journey", name := "hasLegBefore", desc := "(I)Z" } : Jvm.MethodName) ∈ lw_good := lw_g 714 (by decide +kernel) (by decide +kernel)
theorem w_715 : Jvm.Cond.code ({ cls := "Proratehouse$Journey", name := "hasLegBefore", desc := "(I)Z" } : Jvm.MethodName) prog_6_method_6_code (3 : Nat) (Option.some Jvm.ClassFile.FieldType.boolean) ∈ lw_good := lw_g 715 (by decide +kernel) (by decide +kernel)
theorem w_717 : Jvm.Cond.methodLink "Proratehouse" (209 : Nat) ({ cls := "Proratehouse", name := "issued", desc := "(I)LProratehouse$Ticket;" } : Jvm.MethodName) ∈ lw_good := lw_g 717 (by decide +kernel) (by decide +kernel)
theorem w_719 : Jvm.Cond.instanceMethod ({ cls := "Proratehouse", name := "issued", desc := "(I)LProratehouse$Ticket;" } : Jvm.MethodName) ∈ lw_good := lw_g 719 (by decide +kernel) (by decide +kernel)
theorem w_720 : Jvm.Cond.code ({ cls := "Proratehouse", name := "issued", desc := "(I)LProratehouse$Ticket;" } : Jvm.MethodName) prog_1_method_39_code (5 : Nat) (Option.some (Jvm.ClassFile.FieldType.object "Proratehouse$Ticket")) ∈ lw_good := lw_g 720 (by decide +kernel) (by decide +kernel)
theorem w_721 : Jvm.Cond.instantiable "Proratehouse$Ticket" (8 : Nat) ∈ lw_good := lw_g 721 (by decide +kernel) (by decide +kernel)
theorem w_722 : Jvm.Cond.methodLink "Proratehouse" (384 : Nat) ({ cls := "Proratehouse$Ticket", name := "<init>", desc := "(III)V" } : Jvm.MethodName) ∈ lw_good := lw_g 722 (by decide +kernel) (by decide +kernel)
theorem w_723 : Jvm.Cond.instanceMethod ({ cls := "Proratehouse$Ticket", name := "<init>", desc := "(III)V" } : Jvm.MethodName) ∈ lw_good := lw_g 723 (by decide +kernel) (by decide +kernel)
theorem w_724 : Jvm.Cond.code ({ cls := "Proratehouse$Ticket", name := "<init>", desc := "(III)V" } : Jvm.MethodName) prog_11_method_1_code (4 : Nat) (Option.none : Option Jvm.ClassFile.FieldType) ∈ lw_good := lw_g 724 (by decide +kernel) (by decide +kernel)
theorem w_725 : Jvm.Cond.methodLink "Proratehouse$Ticket" (3 : Nat) ({ cls := "java/lang/Object", name := "<init>", desc := "()V" } : Jvm.MethodName) ∈ lw_good := lw_g 725 (by decide +kernel) (by decide +kernel)
theorem w_726 : Jvm.Cond.classLink "Proratehouse$Ticket" (9 : Nat) "Proratehouse$Coupon" ∈ lw_good := lw_g 726 (by decide +kernel) (by decide +kernel)
theorem w_728 : Jvm.Cond.fieldLink "Proratehouse$Ticket" (17 : Nat) "Proratehouse$Ticket" "issuer" "I" ∈ lw_good := lw_g 728 (by decide +kernel) (by decide +kernel)
theorem w_729 : Jvm.Cond.fieldLink "Proratehouse" (249 : Nat) "Proratehouse$Ticket" "issuer" "I" ∈ lw_good := lw_g 729 (by decide +kernel) (by decide +kernel)
theorem w_730 : Jvm.Cond.fieldLink "Proratehouse$Ticket" (21 : Nat) "Proratehouse$Ticket" "price" "I" ∈ lw_good := lw_g 730 (by decide +kernel) (by decide +kernel)
theorem w_731 : Jvm.Cond.fieldLink "Proratehouse" (213 : Nat) "Proratehouse$Ticket" "price" "I" ∈ lw_good := lw_g 731 (by decide +kernel) (by decide +kernel)
theorem w_732 : Jvm.Cond.fieldLink "Proratehouse$Ticket" (24 : Nat) "Proratehouse$Ticket" "cutPoints" "I" ∈ lw_good := lw_g 732 (by decide +kernel) (by decide +kernel)
theorem w_733 : Jvm.Cond.fieldLink "Proratehouse" (345 : Nat) "Proratehouse$Ticket" "cutPoints" "I" ∈ lw_good := lw_g 733 (by decide +kernel) (by decide +kernel)
theorem w_734 : Jvm.Cond.fieldLink "Proratehouse$Ticket" (11 : Nat) "Proratehouse$Ticket" "coupons" "[LProratehouse$Coupon;" ∈ lw_good := lw_g 734 (by decide +kernel) (by decide +kernel)
theorem w_735 : Jvm.Cond.fieldLink "Proratehouse$Ticket" (27 : Nat) "Proratehouse$Ticket" "count" "I" ∈ lw_good := lw_g 735 (by decide +kernel) (by decide +kernel)
theorem w_736 : Jvm.Cond.fieldLink "Proratehouse" (293 : Nat) "Proratehouse$Ticket" "count" "I" ∈ lw_good := lw_g 736 (by decide +kernel) (by decide +kernel)
theorem w_737 : Jvm.Cond.fieldLink "Proratehouse$Ticket" (30 : Nat) "Proratehouse$Ticket" "taxes" "I" ∈ lw_good := lw_g 737 (by decide +kernel) (by decide +kernel)
theorem w_738 : Jvm.Cond.fieldLink "Proratehouse" (216 : Nat) "Proratehouse$Ticket" "taxes" "I" ∈ lw_good := lw_g 738 (by decide +kernel) (by decide +kernel)
theorem w_739 : Jvm.Cond.fieldLink "Proratehouse" (348 : Nat) "Proratehouse$Ticket" "unshared" "I" ∈ lw_good := lw_g 739 (by decide +kernel) (by decide +kernel)
theorem w_740 : Jvm.Cond.fieldLink "Proratehouse" (366 : Nat) "Proratehouse$Ticket" "received" "J" ∈ lw_good := lw_g 740 (by decide +kernel) (by decide +kernel)
theorem w_758 : Jvm.Cond.methodLink "Proratehouse" (386 : Nat) ({ cls := "Proratehouse$Journey", name := "legAt", desc := "(I)LProratehouse$Leg;" } : Jvm.MethodName) ∈ lw_good := lw_g 758 (by decide +kernel) (by decide +kernel)
theorem w_759 : Jvm.Cond.classLink "Proratehouse" (236 : Nat) "Proratehouse$Coupon" ∈ lw_good := lw_g 759 (by decide +kernel) (by decide +kernel)
theorem w_760 : Jvm.Cond.instantiable "Proratehouse$Coupon" (9 : Nat) ∈ lw_good := lw_g 760 (by decide +kernel) (by decide +kernel)
theorem w_761 : Jvm.Cond.methodLink "Proratehouse" (393 : Nat) ({ cls := "Proratehouse$Journey", name := "isStop", desc := "(I)Z" } : Jvm.MethodName) ∈ lw_good := lw_g 761 (by decide +kernel) (by decide +kernel)
theorem w_762 : Jvm.Cond.methodLink "Proratehouse" (396 : Nat) ({ cls := "Proratehouse$Tariff", name := "taxAt", desc := "(IZ)I" } : Jvm.MethodName) ∈ lw_good := lw_g 762 (by decide +kernel) (by decide +kernel)
theorem w_763 : Jvm.Cond.instanceMethod ({ cls := "Proratehouse$Tariff", name := "taxAt", desc := "(IZ)I" } : Jvm.MethodName) ∈ lw_good := lw_g 763 (by decide +kernel) (by decide +kernel)
theorem w_764 : Jvm.Cond.selects "Proratehouse$Tariff" ({ cls := "Proratehouse$Tariff", name := "taxAt", desc := "(IZ)I" } : Jvm.MethodName) ({ cls := "Proratehouse$Tariff", name := "taxAt", desc := "(IZ)I" } : Jvm.MethodName) ∈ lw_good := lw_g 764 (by decide +kernel) (by decide +kernel)
theorem w_765 : Jvm.Cond.code ({ cls := "Proratehouse$Tariff", name := "taxAt", desc := "(IZ)I" } : Jvm.MethodName) prog_10_method_5_code (3 : Nat) (Option.some Jvm.ClassFile.FieldType.int) ∈ lw_good := lw_g 765 (by decide +kernel) (by decide +kernel)
theorem w_766 : Jvm.Cond.methodLink "Proratehouse" (400 : Nat) ({ cls := "Proratehouse$Coupon", name := "<init>", desc := "(LProratehouse$Leg;I)V" } : Jvm.MethodName) ∈ lw_good := lw_g 766 (by decide +kernel) (by decide +kernel)
theorem w_767 : Jvm.Cond.instanceMethod ({ cls := "Proratehouse$Coupon", name := "<init>", desc := "(LProratehouse$Leg;I)V" } : Jvm.MethodName) ∈ lw_good := lw_g 767 (by decide +kernel) (by decide +kernel)
theorem w_768 : Jvm.Cond.code ({ cls := "Proratehouse$Coupon", name := "<init>", desc := "(LProratehouse$Leg;I)V" } : Jvm.MethodName) prog_4_method_1_code (3 : Nat) (Option.none : Option Jvm.ClassFile.FieldType) ∈ lw_good := lw_g 768 (by decide +kernel) (by decide +kernel)
theorem w_769 : Jvm.Cond.methodLink "Proratehouse$Coupon" (3 : Nat) ({ cls := "java/lang/Object", name := "<init>", desc := "()V" } : Jvm.MethodName) ∈ lw_good := lw_g 769 (by decide +kernel) (by decide +kernel)
theorem w_770 : Jvm.Cond.fieldLink "Proratehouse$Coupon" (23 : Nat) "Proratehouse$Coupon" "from" "I" ∈ lw_good := lw_g 770 (by decide +kernel) (by decide +kernel)
theorem w_771 : Jvm.Cond.fieldLink "Proratehouse$Proration" (33 : Nat) "Proratehouse$Coupon" "from" "I" ∈ lw_good := lw_g 771 (by decide +kernel) (by decide +kernel)
theorem w_772 : Jvm.Cond.fieldLink "Proratehouse" (259 : Nat) "Proratehouse$Coupon" "from" "I" ∈ lw_good := lw_g 772 (by decide +kernel) (by decide +kernel)
theorem w_773 : Jvm.Cond.fieldLink "Proratehouse$Coupon" (27 : Nat) "Proratehouse$Coupon" "to" "I" ∈ lw_good := lw_g 773 (by decide +kernel) (by decide +kernel)
theorem w_774 : Jvm.Cond.fieldLink "Proratehouse$Proration" (39 : Nat) "Proratehouse$Coupon" "to" "I" ∈ lw_good := lw_g 774 (by decide +kernel) (by decide +kernel)
theorem w_775 : Jvm.Cond.fieldLink "Proratehouse$Coupon" (31 : Nat) "Proratehouse$Coupon" "day" "I" ∈ lw_good := lw_g 775 (by decide +kernel) (by decide +kernel)
theorem w_776 : Jvm.Cond.fieldLink "Proratehouse" (240 : Nat) "Proratehouse$Coupon" "day" "I" ∈ lw_good := lw_g 776 (by decide +kernel) (by decide +kernel)
theorem w_777 : Jvm.Cond.fieldLink "Proratehouse$Coupon" (36 : Nat) "Proratehouse$Coupon" "tax" "I" ∈ lw_good := lw_g 777 (by decide +kernel) (by decide +kernel)
theorem w_778 : Jvm.Cond.fieldLink "Proratehouse$Ticket" (33 : Nat) "Proratehouse$Coupon" "tax" "I" ∈ lw_good := lw_g 778 (by decide +kernel) (by decide +kernel)
theorem w_779 : Jvm.Cond.fieldLink "Proratehouse" (252 : Nat) "Proratehouse$Coupon" "tax" "I" ∈ lw_good := lw_g 779 (by decide +kernel) (by decide +kernel)
theorem w_780 : Jvm.Cond.fieldLink "Proratehouse$Coupon" (35 : Nat) "Proratehouse$Coupon" "carrier" "I" ∈ lw_good := lw_g 780 (by decide +kernel) (by decide +kernel)
theorem w_781 : Jvm.Cond.fieldLink "Proratehouse$Proration" (52 : Nat) "Proratehouse$Coupon" "carrier" "I" ∈ lw_good := lw_g 781 (by decide +kernel) (by decide +kernel)
theorem w_782 : Jvm.Cond.fieldLink "Proratehouse" (262 : Nat) "Proratehouse$Coupon" "carrier" "I" ∈ lw_good := lw_g 782 (by decide +kernel) (by decide +kernel)
theorem w_783 : Jvm.Cond.fieldLink "Proratehouse$Proration" (59 : Nat) "Proratehouse$Coupon" "weight" "I" ∈ lw_good := lw_g 783 (by decide +kernel) (by decide +kernel)
theorem w_784 : Jvm.Cond.fieldLink "Proratehouse$Proration" (67 : Nat) "Proratehouse$Coupon" "share" "I" ∈ lw_good := lw_g 784 (by decide +kernel) (by decide +kernel)
theorem w_785 : Jvm.Cond.fieldLink "Proratehouse$Ticket" (46 : Nat) "Proratehouse$Coupon" "share" "I" ∈ lw_good := lw_g 785 (by decide +kernel) (by decide +kernel)
theorem w_786 : Jvm.Cond.fieldLink "Proratehouse" (265 : Nat) "Proratehouse$Coupon" "share" "I" ∈ lw_good := lw_g 786 (by decide +kernel) (by decide +kernel)
theorem w_787 : Jvm.Cond.fieldLink "Proratehouse$Coupon" (9 : Nat) "Proratehouse$Coupon" "status" "I" ∈ lw_good := lw_g 787 (by decide +kernel) (by decide +kernel)
theorem w_788 : Jvm.Cond.fieldLink "Proratehouse$Ticket" (40 : Nat) "Proratehouse$Coupon" "status" "I" ∈ lw_good := lw_g 788 (by decide +kernel) (by decide +kernel)
theorem w_789 : Jvm.Cond.fieldLink "Proratehouse" (235 : Nat) "Proratehouse$Coupon" "status" "I" ∈ lw_good := lw_g 789 (by decide +kernel) (by decide +kernel)
theorem w_790 : Jvm.Cond.fieldLink "Proratehouse$Coupon" (15 : Nat) "Proratehouse$Coupon" "bill" "I" ∈ lw_good := lw_g 790 (by decide +kernel) (by decide +kernel)
theorem w_791 : Jvm.Cond.fieldLink "Proratehouse" (271 : Nat) "Proratehouse$Coupon" "bill" "I" ∈ lw_good := lw_g 791 (by decide +kernel) (by decide +kernel)
theorem w_811 : Jvm.Cond.methodLink "Proratehouse" (403 : Nat) ({ cls := "Proratehouse$Ticket", name := "add", desc := "(LProratehouse$Coupon;)V" } : Jvm.MethodName) ∈ lw_good := lw_g 811 (by decide +kernel) (by decide +kernel)
theorem w_812 : Jvm.Cond.instanceMethod ({ cls := "Proratehouse$Ticket", name := "add", desc := "(LProratehouse$Coupon;)V" } : Jvm.MethodName) ∈ lw_good := lw_g 812 (by decide +kernel) (by decide +kernel)
theorem w_813 : Jvm.Cond.selects "Proratehouse$Ticket" ({ cls := "Proratehouse$Ticket", name := "add", desc := "(LProratehouse$Coupon;)V" } : Jvm.MethodName) ({ cls := "Proratehouse$Ticket", name := "add", desc := "(LProratehouse$Coupon;)V" } : Jvm.MethodName) ∈ lw_good := lw_g 813 (by decide +kernel) (by decide +kernel)
theorem w_814 : Jvm.Cond.code ({ cls := "Proratehouse$Ticket", name := "add", desc := "(LProratehouse$Coupon;)V" } : Jvm.MethodName) prog_11_method_2_code (2 : Nat) (Option.none : Option Jvm.ClassFile.FieldType) ∈ lw_good := lw_g 814 (by decide +kernel) (by decide +kernel)
theorem w_815 : Jvm.Cond.methodLink "Proratehouse" (406 : Nat) ({ cls := "Proratehouse", name := "shareOut", desc := "(LProratehouse$Ticket;)V" } : Jvm.MethodName) ∈ lw_good := lw_g 815 (by decide +kernel) (by decide +kernel)
theorem w_817 : Jvm.Cond.instanceMethod ({ cls := "Proratehouse", name := "shareOut", desc := "(LProratehouse$Ticket;)V" } : Jvm.MethodName) ∈ lw_good := lw_g 817 (by decide +kernel) (by decide +kernel)
theorem w_818 : Jvm.Cond.code ({ cls := "Proratehouse", name := "shareOut", desc := "(LProratehouse$Ticket;)V" } : Jvm.MethodName) prog_1_method_40_code (5 : Nat) (Option.none : Option Jvm.ClassFile.FieldType) ∈ lw_good := lw_g 818 (by decide +kernel) (by decide +kernel)
theorem w_819 : Jvm.Cond.methodLink "Proratehouse" (410 : Nat) ({ cls := "Proratehouse$Proration", name := "share", desc := "(LProratehouse$Ticket;IIILProratehouse$Pairs;)I" } : Jvm.MethodName) ∈ lw_good := lw_g 819 (by decide +kernel) (by decide +kernel)
theorem w_820 : Jvm.Cond.instanceMethod ({ cls := "Proratehouse$Proration", name := "share", desc := "(LProratehouse$Ticket;IIILProratehouse$Pairs;)I" } : Jvm.MethodName) ∈ lw_good := lw_g 820 (by decide +kernel) (by decide +kernel)
theorem w_821 : Jvm.Cond.selects "Proratehouse$Proration" ({ cls := "Proratehouse$Proration", name := "share", desc := "(LProratehouse$Ticket;IIILProratehouse$Pairs;)I" } : Jvm.MethodName) ({ cls := "Proratehouse$Proration", name := "share", desc := "(LProratehouse$Ticket;IIILProratehouse$Pairs;)I" } : Jvm.MethodName) ∈ lw_good := lw_g 821 (by decide +kernel) (by decide +kernel)
theorem w_822 : Jvm.Cond.code ({ cls := "Proratehouse$Proration", name := "share", desc := "(LProratehouse$Ticket;IIILProratehouse$Pairs;)I" } : Jvm.MethodName) prog_9_method_5_code (11 : Nat) (Option.some Jvm.ClassFile.FieldType.int) ∈ lw_good := lw_g 822 (by decide +kernel) (by decide +kernel)
theorem w_823 : Jvm.Cond.methodLink "Proratehouse$Proration" (46 : Nat) ({ cls := "Proratehouse$Ticket", name := "couponAt", desc := "(I)LProratehouse$Coupon;" } : Jvm.MethodName) ∈ lw_good := lw_g 823 (by decide +kernel) (by decide +kernel)
theorem w_824 : Jvm.Cond.methodLink "Proratehouse$Proration" (55 : Nat) ({ cls := "Proratehouse$Proration", name := "weightOf", desc := "(LProratehouse$Coupon;LProratehouse$Pairs;)I" } : Jvm.MethodName) ∈ lw_good := lw_g 824 (by decide +kernel) (by decide +kernel)
theorem w_826 : Jvm.Cond.instanceMethod ({ cls := "Proratehouse$Proration", name := "weightOf", desc := "(LProratehouse$Coupon;LProratehouse$Pairs;)I" } : Jvm.MethodName) ∈ lw_good := lw_g 826 (by decide +kernel) (by decide +kernel)
theorem w_827 : Jvm.Cond.code ({ cls := "Proratehouse$Proration", name := "weightOf", desc := "(LProratehouse$Coupon;LProratehouse$Pairs;)I" } : Jvm.MethodName) prog_9_method_4_code (4 : Nat) (Option.some Jvm.ClassFile.FieldType.int) ∈ lw_good := lw_g 827 (by decide +kernel) (by decide +kernel)
theorem w_828 : Jvm.Cond.methodLink "Proratehouse$Proration" (42 : Nat) ({ cls := "Proratehouse$Pairs", name := "get", desc := "(II)I" } : Jvm.MethodName) ∈ lw_good := lw_g 828 (by decide +kernel) (by decide +kernel)
theorem w_829 : Jvm.Cond.methodLink "Proratehouse$Proration" (62 : Nat) ({ cls := "java/lang/Math", name := "min", desc := "(II)I" } : Jvm.MethodName) ∈ lw_good := lw_g 829 (by decide +kernel) (by decide +kernel)
theorem w_830 : Jvm.Cond.static ({ cls := "java/lang/Math", name := "min", desc := "(II)I" } : Jvm.MethodName) ∈ lw_good := lw_g 830 (by decide +kernel) (by decide +kernel)
theorem w_831 : Jvm.Cond.code ({ cls := "java/lang/Math", name := "min", desc := "(II)I" } : Jvm.MethodName) prog_19_method_69_code (2 : Nat) (Option.some Jvm.ClassFile.FieldType.int) ∈ lw_good := lw_g 831 (by decide +kernel) (by decide +kernel)
theorem w_832 : Jvm.Cond.methodLink "Proratehouse$Proration" (70 : Nat) ({ cls := "Proratehouse$Proration", name := "shareByWeights", desc := "(LProratehouse$Ticket;IIII)V" } : Jvm.MethodName) ∈ lw_good := lw_g 832 (by decide +kernel) (by decide +kernel)
theorem w_834 : Jvm.Cond.instanceMethod ({ cls := "Proratehouse$Proration", name := "shareByWeights", desc := "(LProratehouse$Ticket;IIII)V" } : Jvm.MethodName) ∈ lw_good := lw_g 834 (by decide +kernel) (by decide +kernel)
theorem w_835 : Jvm.Cond.code ({ cls := "Proratehouse$Proration", name := "shareByWeights", desc := "(LProratehouse$Ticket;IIII)V" } : Jvm.MethodName) prog_9_method_6_code (10 : Nat) (Option.none : Option Jvm.ClassFile.FieldType) ∈ lw_good := lw_g 835 (by decide +kernel) (by decide +kernel)
theorem w_836 : Jvm.Cond.methodLink "Proratehouse" (172 : Nat) ({ cls := "Proratehouse$Journey", name := "beginAnew", desc := "()I" } : Jvm.MethodName) ∈ lw_good := lw_g 836 (by decide +kernel) (by decide +kernel)
theorem w_837 : Jvm.Cond.instanceMethod ({ cls := "Proratehouse$Journey", name := "beginAnew", desc := "()I" } : Jvm.MethodName) ∈ lw_good := lw_g 837 (by decide +kernel) (by decide +kernel)
theorem w_838 : Jvm.Cond.selects "Proratehouse$Journey" ({ cls := "Proratehouse$Journey", name := "beginAnew", desc := "()I" } : Jvm.MethodName) ({ cls := "Proratehouse$Journey", name := "beginAnew", desc := "()I" } : Jvm.MethodName) ∈ lw_good := lw_g 838 (by decide +kernel) (by decide +kernel)
theorem w_839 : Jvm.Cond.code ({ cls := "Proratehouse$Journey", name := "beginAnew", desc := "()I" } : Jvm.MethodName) prog_6_method_5_code (2 : Nat) (Option.some Jvm.ClassFile.FieldType.int) ∈ lw_good := lw_g 839 (by decide +kernel) (by decide +kernel)
theorem w_840 : Jvm.Cond.methodLink "Proratehouse" (219 : Nat) ({ cls := "Proratehouse", name := "receive", desc := "(LProratehouse$Ticket;I)V" } : Jvm.MethodName) ∈ lw_good := lw_g 840 (by decide +kernel) (by decide +kernel)
theorem w_842 : Jvm.Cond.instanceMethod ({ cls := "Proratehouse", name := "receive", desc := "(LProratehouse$Ticket;I)V" } : Jvm.MethodName) ∈ lw_good := lw_g 842 (by decide +kernel) (by decide +kernel)
theorem w_843 : Jvm.Cond.code ({ cls := "Proratehouse", name := "receive", desc := "(LProratehouse$Ticket;I)V" } : Jvm.MethodName) prog_1_method_41_code (3 : Nat) (Option.none : Option Jvm.ClassFile.FieldType) ∈ lw_good := lw_g 843 (by decide +kernel) (by decide +kernel)
theorem w_844 : Jvm.Cond.methodLink "Proratehouse" (255 : Nat) ({ cls := "Proratehouse", name := "addCash", desc := "(IJ)V" } : Jvm.MethodName) ∈ lw_good := lw_g 844 (by decide +kernel) (by decide +kernel)
theorem w_846 : Jvm.Cond.instanceMethod ({ cls := "Proratehouse", name := "addCash", desc := "(IJ)V" } : Jvm.MethodName) ∈ lw_good := lw_g 846 (by decide +kernel) (by decide +kernel)
theorem w_847 : Jvm.Cond.code ({ cls := "Proratehouse", name := "addCash", desc := "(IJ)V" } : Jvm.MethodName) prog_1_method_42_code (4 : Nat) (Option.none : Option Jvm.ClassFile.FieldType) ∈ lw_good := lw_g 847 (by decide +kernel) (by decide +kernel)
theorem w_848 : Jvm.Cond.methodLink "ProratehouseLaw" (207 : Nat) ({ cls := "ProratehouseLaw", name := "sells", desc := "(LProratehouse;[III)Z" } : Jvm.MethodName) ∈ lw_good := lw_g 848 (by decide +kernel) (by decide +kernel)
theorem w_849 : Jvm.Cond.static ({ cls := "ProratehouseLaw", name := "sells", desc := "(LProratehouse;[III)Z" } : Jvm.MethodName) ∈ lw_good := lw_g 849 (by decide +kernel) (by decide +kernel)
theorem w_850 : Jvm.Cond.code ({ cls := "ProratehouseLaw", name := "sells", desc := "(LProratehouse;[III)Z" } : Jvm.MethodName) method_36_code (10 : Nat) (Option.some Jvm.ClassFile.FieldType.boolean) ∈ lw_good := lw_g 850 (by decide +kernel) (by decide +kernel)
theorem w_851 : Jvm.Cond.methodLink "ProratehouseLaw" (174 : Nat) ({ cls := "ProratehouseLaw", name := "refund", desc := "(LProratehouse;I)I" } : Jvm.MethodName) ∈ lw_good := lw_g 851 (by decide +kernel) (by decide +kernel)
theorem w_852 : Jvm.Cond.static ({ cls := "ProratehouseLaw", name := "refund", desc := "(LProratehouse;I)I" } : Jvm.MethodName) ∈ lw_good := lw_g 852 (by decide +kernel) (by decide +kernel)
theorem w_853 : Jvm.Cond.codeWith ({ cls := "ProratehouseLaw", name := "refund", desc := "(LProratehouse;I)I" } : Jvm.MethodName) method_17_code (3 : Nat) (Option.some Jvm.ClassFile.FieldType.int) [((0 : Nat), (5 : Nat), (6 : Nat), (16 : Nat)), ((0 : Nat), (5 : Nat), (10 : Nat), (26 : Nat))] ∈ lw_good := lw_g 853 (by decide +kernel) (by decide +kernel)
theorem w_854 : Jvm.Cond.methodLink "ProratehouseLaw" (67 : Nat) ({ cls := "Proratehouse", name := "refund", desc := "(I)I" } : Jvm.MethodName) ∈ lw_good := lw_g 854 (by decide +kernel) (by decide +kernel)
theorem w_855 : Jvm.Cond.instanceMethod ({ cls := "Proratehouse", name := "refund", desc := "(I)I" } : Jvm.MethodName) ∈ lw_good := lw_g 855 (by decide +kernel) (by decide +kernel)
theorem w_856 : Jvm.Cond.selects "Proratehouse" ({ cls := "Proratehouse", name := "refund", desc := "(I)I" } : Jvm.MethodName) ({ cls := "Proratehouse", name := "refund", desc := "(I)I" } : Jvm.MethodName) ∈ lw_good := lw_g 856 (by decide +kernel) (by decide +kernel)
theorem w_857 : Jvm.Cond.code ({ cls := "Proratehouse", name := "refund", desc := "(I)I" } : Jvm.MethodName) prog_1_method_19_code (6 : Nat) (Option.some Jvm.ClassFile.FieldType.int) ∈ lw_good := lw_g 857 (by decide +kernel) (by decide +kernel)
theorem w_858 : Jvm.Cond.methodLink "Proratehouse" (280 : Nat) ({ cls := "Proratehouse$Ticket", name := "hasOpenOnes", desc := "()Z" } : Jvm.MethodName) ∈ lw_good := lw_g 858 (by decide +kernel) (by decide +kernel)
theorem w_859 : Jvm.Cond.instanceMethod ({ cls := "Proratehouse$Ticket", name := "hasOpenOnes", desc := "()Z" } : Jvm.MethodName) ∈ lw_good := lw_g 859 (by decide +kernel) (by decide +kernel)
theorem w_860 : Jvm.Cond.selects "Proratehouse$Ticket" ({ cls := "Proratehouse$Ticket", name := "hasOpenOnes", desc := "()Z" } : Jvm.MethodName) ({ cls := "Proratehouse$Ticket", name := "hasOpenOnes", desc := "()Z" } : Jvm.MethodName) ∈ lw_good := lw_g 860 (by decide +kernel) (by decide +kernel)
theorem w_861 : Jvm.Cond.code ({ cls := "Proratehouse$Ticket", name := "hasOpenOnes", desc := "()Z" } : Jvm.MethodName) prog_11_method_5_code (2 : Nat) (Option.some Jvm.ClassFile.FieldType.boolean) ∈ lw_good := lw_g 861 (by decide +kernel) (by decide +kernel)
theorem w_862 : Jvm.Cond.methodLink "Proratehouse$Ticket" (43 : Nat) ({ cls := "Proratehouse$Ticket", name := "openAt", desc := "(I)LProratehouse$Coupon;" } : Jvm.MethodName) ∈ lw_good := lw_g 862 (by decide +kernel) (by decide +kernel)
theorem w_864 : Jvm.Cond.instanceMethod ({ cls := "Proratehouse$Ticket", name := "openAt", desc := "(I)LProratehouse$Coupon;" } : Jvm.MethodName) ∈ lw_good := lw_g 864 (by decide +kernel) (by decide +kernel)
theorem w_865 : Jvm.Cond.code ({ cls := "Proratehouse$Ticket", name := "openAt", desc := "(I)LProratehouse$Coupon;" } : Jvm.MethodName) prog_11_method_4_code (3 : Nat) (Option.some (Jvm.ClassFile.FieldType.object "Proratehouse$Coupon")) ∈ lw_good := lw_g 865 (by decide +kernel) (by decide +kernel)
theorem w_867 : Jvm.Cond.methodLink "Proratehouse" (285 : Nat) ({ cls := "Proratehouse$Ticket", name := "openShares", desc := "()I" } : Jvm.MethodName) ∈ lw_good := lw_g 867 (by decide +kernel) (by decide +kernel)
theorem w_868 : Jvm.Cond.instanceMethod ({ cls := "Proratehouse$Ticket", name := "openShares", desc := "()I" } : Jvm.MethodName) ∈ lw_good := lw_g 868 (by decide +kernel) (by decide +kernel)
theorem w_869 : Jvm.Cond.selects "Proratehouse$Ticket" ({ cls := "Proratehouse$Ticket", name := "openShares", desc := "()I" } : Jvm.MethodName) ({ cls := "Proratehouse$Ticket", name := "openShares", desc := "()I" } : Jvm.MethodName) ∈ lw_good := lw_g 869 (by decide +kernel) (by decide +kernel)
theorem w_870 : Jvm.Cond.code ({ cls := "Proratehouse$Ticket", name := "openShares", desc := "()I" } : Jvm.MethodName) prog_11_method_6_code (4 : Nat) (Option.some Jvm.ClassFile.FieldType.int) ∈ lw_good := lw_g 870 (by decide +kernel) (by decide +kernel)
theorem w_871 : Jvm.Cond.constantLong "Proratehouse" (288 : Nat) (100 : Int64) ∈ lw_good := lw_g 871 (by decide +kernel) (by decide +kernel)
theorem w_872 : Jvm.Cond.methodLink "Proratehouse" (290 : Nat) ({ cls := "Proratehouse$Ticket", name := "openTaxes", desc := "()I" } : Jvm.MethodName) ∈ lw_good := lw_g 872 (by decide +kernel) (by decide +kernel)
theorem w_873 : Jvm.Cond.instanceMethod ({ cls := "Proratehouse$Ticket", name := "openTaxes", desc := "()I" } : Jvm.MethodName) ∈ lw_good := lw_g 873 (by decide +kernel) (by decide +kernel)
theorem w_874 : Jvm.Cond.selects "Proratehouse$Ticket" ({ cls := "Proratehouse$Ticket", name := "openTaxes", desc := "()I" } : Jvm.MethodName) ({ cls := "Proratehouse$Ticket", name := "openTaxes", desc := "()I" } : Jvm.MethodName) ∈ lw_good := lw_g 874 (by decide +kernel) (by decide +kernel)
theorem w_875 : Jvm.Cond.code ({ cls := "Proratehouse$Ticket", name := "openTaxes", desc := "()I" } : Jvm.MethodName) prog_11_method_7_code (4 : Nat) (Option.some Jvm.ClassFile.FieldType.int) ∈ lw_good := lw_g 875 (by decide +kernel) (by decide +kernel)
theorem w_876 : Jvm.Cond.methodLink "Proratehouse" (245 : Nat) ({ cls := "Proratehouse$Ticket", name := "turnOpenOnes", desc := "(II)V" } : Jvm.MethodName) ∈ lw_good := lw_g 876 (by decide +kernel) (by decide +kernel)
theorem w_877 : Jvm.Cond.instanceMethod ({ cls := "Proratehouse$Ticket", name := "turnOpenOnes", desc := "(II)V" } : Jvm.MethodName) ∈ lw_good := lw_g 877 (by decide +kernel) (by decide +kernel)
theorem w_878 : Jvm.Cond.selects "Proratehouse$Ticket" ({ cls := "Proratehouse$Ticket", name := "turnOpenOnes", desc := "(II)V" } : Jvm.MethodName) ({ cls := "Proratehouse$Ticket", name := "turnOpenOnes", desc := "(II)V" } : Jvm.MethodName) ∈ lw_good := lw_g 878 (by decide +kernel) (by decide +kernel)
theorem w_879 : Jvm.Cond.code ({ cls := "Proratehouse$Ticket", name := "turnOpenOnes", desc := "(II)V" } : Jvm.MethodName) prog_11_method_9_code (5 : Nat) (Option.none : Option Jvm.ClassFile.FieldType) ∈ lw_good := lw_g 879 (by decide +kernel) (by decide +kernel)
theorem w_880 : Jvm.Cond.methodLink "ProratehouseLaw" (176 : Nat) ({ cls := "ProratehouseLaw", name := "reissue", desc := "(LProratehouse;I)I" } : Jvm.MethodName) ∈ lw_good := lw_g 880 (by decide +kernel) (by decide +kernel)
theorem w_881 : Jvm.Cond.static ({ cls := "ProratehouseLaw", name := "reissue", desc := "(LProratehouse;I)I" } : Jvm.MethodName) ∈ lw_good := lw_g 881 (by decide +kernel) (by decide +kernel)
theorem w_882 : Jvm.Cond.codeWith ({ cls := "ProratehouseLaw", name := "reissue", desc := "(LProratehouse;I)I" } : Jvm.MethodName) method_18_code (3 : Nat) (Option.some Jvm.ClassFile.FieldType.int) [((0 : Nat), (5 : Nat), (6 : Nat), (16 : Nat)), ((0 : Nat), (5 : Nat), (10 : Nat), (26 : Nat))] ∈ lw_good := lw_g 882 (by decide +kernel) (by decide +kernel)
theorem w_883 : Jvm.Cond.methodLink "ProratehouseLaw" (70 : Nat) ({ cls := "Proratehouse", name := "reissue", desc := "(I)I" } : Jvm.MethodName) ∈ lw_good := lw_g 883 (by decide +kernel) (by decide +kernel)
theorem w_884 : Jvm.Cond.instanceMethod ({ cls := "Proratehouse", name := "reissue", desc := "(I)I" } : Jvm.MethodName) ∈ lw_good := lw_g 884 (by decide +kernel) (by decide +kernel)
theorem w_885 : Jvm.Cond.selects "Proratehouse" ({ cls := "Proratehouse", name := "reissue", desc := "(I)I" } : Jvm.MethodName) ({ cls := "Proratehouse", name := "reissue", desc := "(I)I" } : Jvm.MethodName) ∈ lw_good := lw_g 885 (by decide +kernel) (by decide +kernel)
theorem w_886 : Jvm.Cond.code ({ cls := "Proratehouse", name := "reissue", desc := "(I)I" } : Jvm.MethodName) prog_1_method_20_code (6 : Nat) (Option.some Jvm.ClassFile.FieldType.int) ∈ lw_good := lw_g 886 (by decide +kernel) (by decide +kernel)
theorem w_888 : Jvm.Cond.methodLink "ProratehouseLaw" (210 : Nat) ({ cls := "ProratehouseLaw", name := "flies", desc := "(LProratehouse;[II)Z" } : Jvm.MethodName) ∈ lw_good := lw_g 888 (by decide +kernel) (by decide +kernel)
theorem w_889 : Jvm.Cond.static ({ cls := "ProratehouseLaw", name := "flies", desc := "(LProratehouse;[II)Z" } : Jvm.MethodName) ∈ lw_good := lw_g 889 (by decide +kernel) (by decide +kernel)
theorem w_890 : Jvm.Cond.code ({ cls := "ProratehouseLaw", name := "flies", desc := "(LProratehouse;[II)Z" } : Jvm.MethodName) method_37_code (9 : Nat) (Option.some Jvm.ClassFile.FieldType.boolean) ∈ lw_good := lw_g 890 (by decide +kernel) (by decide +kernel)
theorem w_891 : Jvm.Cond.methodLink "ProratehouseLaw" (178 : Nat) ({ cls := "ProratehouseLaw", name := "endorse", desc := "(LProratehouse;III)I" } : Jvm.MethodName) ∈ lw_good := lw_g 891 (by decide +kernel) (by decide +kernel)
theorem w_892 : Jvm.Cond.static ({ cls := "ProratehouseLaw", name := "endorse", desc := "(LProratehouse;III)I" } : Jvm.MethodName) ∈ lw_good := lw_g 892 (by decide +kernel) (by decide +kernel)
theorem w_893 : Jvm.Cond.codeWith ({ cls := "ProratehouseLaw", name := "endorse", desc := "(LProratehouse;III)I" } : Jvm.MethodName) method_16_code (5 : Nat) (Option.some Jvm.ClassFile.FieldType.int) [((0 : Nat), (7 : Nat), (8 : Nat), (16 : Nat)), ((0 : Nat), (7 : Nat), (13 : Nat), (26 : Nat))] ∈ lw_good := lw_g 893 (by decide +kernel) (by decide +kernel)
theorem w_894 : Jvm.Cond.methodLink "ProratehouseLaw" (64 : Nat) ({ cls := "Proratehouse", name := "endorse", desc := "(III)I" } : Jvm.MethodName) ∈ lw_good := lw_g 894 (by decide +kernel) (by decide +kernel)
theorem w_895 : Jvm.Cond.instanceMethod ({ cls := "Proratehouse", name := "endorse", desc := "(III)I" } : Jvm.MethodName) ∈ lw_good := lw_g 895 (by decide +kernel) (by decide +kernel)
theorem w_896 : Jvm.Cond.selects "Proratehouse" ({ cls := "Proratehouse", name := "endorse", desc := "(III)I" } : Jvm.MethodName) ({ cls := "Proratehouse", name := "endorse", desc := "(III)I" } : Jvm.MethodName) ∈ lw_good := lw_g 896 (by decide +kernel) (by decide +kernel)
theorem w_897 : Jvm.Cond.code ({ cls := "Proratehouse", name := "endorse", desc := "(III)I" } : Jvm.MethodName) prog_1_method_18_code (7 : Nat) (Option.some Jvm.ClassFile.FieldType.int) ∈ lw_good := lw_g 897 (by decide +kernel) (by decide +kernel)
theorem w_900 : Jvm.Cond.methodLink "ProratehouseLaw" (180 : Nat) ({ cls := "ProratehouseLaw", name := "fly", desc := "(LProratehouse;II)I" } : Jvm.MethodName) ∈ lw_good := lw_g 900 (by decide +kernel) (by decide +kernel)
theorem w_901 : Jvm.Cond.static ({ cls := "ProratehouseLaw", name := "fly", desc := "(LProratehouse;II)I" } : Jvm.MethodName) ∈ lw_good := lw_g 901 (by decide +kernel) (by decide +kernel)
theorem w_902 : Jvm.Cond.codeWith ({ cls := "ProratehouseLaw", name := "fly", desc := "(LProratehouse;II)I" } : Jvm.MethodName) method_15_code (4 : Nat) (Option.some Jvm.ClassFile.FieldType.int) [((0 : Nat), (6 : Nat), (7 : Nat), (16 : Nat)), ((0 : Nat), (6 : Nat), (11 : Nat), (26 : Nat))] ∈ lw_good := lw_g 902 (by decide +kernel) (by decide +kernel)
theorem w_903 : Jvm.Cond.methodLink "ProratehouseLaw" (61 : Nat) ({ cls := "Proratehouse", name := "fly", desc := "(II)I" } : Jvm.MethodName) ∈ lw_good := lw_g 903 (by decide +kernel) (by decide +kernel)
theorem w_904 : Jvm.Cond.instanceMethod ({ cls := "Proratehouse", name := "fly", desc := "(II)I" } : Jvm.MethodName) ∈ lw_good := lw_g 904 (by decide +kernel) (by decide +kernel)
theorem w_905 : Jvm.Cond.selects "Proratehouse" ({ cls := "Proratehouse", name := "fly", desc := "(II)I" } : Jvm.MethodName) ({ cls := "Proratehouse", name := "fly", desc := "(II)I" } : Jvm.MethodName) ∈ lw_good := lw_g 905 (by decide +kernel) (by decide +kernel)
theorem w_906 : Jvm.Cond.code ({ cls := "Proratehouse", name := "fly", desc := "(II)I" } : Jvm.MethodName) prog_1_method_17_code (5 : Nat) (Option.some Jvm.ClassFile.FieldType.int) ∈ lw_good := lw_g 906 (by decide +kernel) (by decide +kernel)
theorem w_908 : Jvm.Cond.methodLink "Proratehouse" (268 : Nat) ({ cls := "Proratehouse$Clearing", name := "addBill", desc := "(III)I" } : Jvm.MethodName) ∈ lw_good := lw_g 908 (by decide +kernel) (by decide +kernel)
theorem w_909 : Jvm.Cond.instanceMethod ({ cls := "Proratehouse$Clearing", name := "addBill", desc := "(III)I" } : Jvm.MethodName) ∈ lw_good := lw_g 909 (by decide +kernel) (by decide +kernel)
theorem w_910 : Jvm.Cond.selects "Proratehouse$Clearing" ({ cls := "Proratehouse$Clearing", name := "addBill", desc := "(III)I" } : Jvm.MethodName) ({ cls := "Proratehouse$Clearing", name := "addBill", desc := "(III)I" } : Jvm.MethodName) ∈ lw_good := lw_g 910 (by decide +kernel) (by decide +kernel)
theorem w_911 : Jvm.Cond.code ({ cls := "Proratehouse$Clearing", name := "addBill", desc := "(III)I" } : Jvm.MethodName) prog_3_method_2_code (4 : Nat) (Option.some Jvm.ClassFile.FieldType.int) ∈ lw_good := lw_g 911 (by decide +kernel) (by decide +kernel)
theorem w_912 : Jvm.Cond.instantiable "Proratehouse$Bill" (6 : Nat) ∈ lw_good := lw_g 912 (by decide +kernel) (by decide +kernel)
theorem w_913 : Jvm.Cond.methodLink "Proratehouse$Clearing" (25 : Nat) ({ cls := "Proratehouse$Bill", name := "<init>", desc := "(III)V" } : Jvm.MethodName) ∈ lw_good := lw_g 913 (by decide +kernel) (by decide +kernel)
theorem w_914 : Jvm.Cond.instanceMethod ({ cls := "Proratehouse$Bill", name := "<init>", desc := "(III)V" } : Jvm.MethodName) ∈ lw_good := lw_g 914 (by decide +kernel) (by decide +kernel)
theorem w_915 : Jvm.Cond.code ({ cls := "Proratehouse$Bill", name := "<init>", desc := "(III)V" } : Jvm.MethodName) prog_2_method_1_code (4 : Nat) (Option.none : Option Jvm.ClassFile.FieldType) ∈ lw_good := lw_g 915 (by decide +kernel) (by decide +kernel)
theorem w_916 : Jvm.Cond.methodLink "Proratehouse$Bill" (3 : Nat) ({ cls := "java/lang/Object", name := "<init>", desc := "()V" } : Jvm.MethodName) ∈ lw_good := lw_g 916 (by decide +kernel) (by decide +kernel)
theorem w_917 : Jvm.Cond.fieldLink "Proratehouse$Bill" (15 : Nat) "Proratehouse$Bill" "payer" "I" ∈ lw_good := lw_g 917 (by decide +kernel) (by decide +kernel)
theorem w_918 : Jvm.Cond.fieldLink "Proratehouse$Clearing" (49 : Nat) "Proratehouse$Bill" "payer" "I" ∈ lw_good := lw_g 918 (by decide +kernel) (by decide +kernel)
theorem w_919 : Jvm.Cond.fieldLink "Proratehouse" (356 : Nat) "Proratehouse$Bill" "payer" "I" ∈ lw_good := lw_g 919 (by decide +kernel) (by decide +kernel)
theorem w_920 : Jvm.Cond.fieldLink "Proratehouse$Bill" (18 : Nat) "Proratehouse$Bill" "payee" "I" ∈ lw_good := lw_g 920 (by decide +kernel) (by decide +kernel)
theorem w_921 : Jvm.Cond.fieldLink "Proratehouse$Clearing" (55 : Nat) "Proratehouse$Bill" "payee" "I" ∈ lw_good := lw_g 921 (by decide +kernel) (by decide +kernel)
theorem w_922 : Jvm.Cond.fieldLink "Proratehouse" (359 : Nat) "Proratehouse$Bill" "payee" "I" ∈ lw_good := lw_g 922 (by decide +kernel) (by decide +kernel)
theorem w_923 : Jvm.Cond.fieldLink "Proratehouse$Bill" (21 : Nat) "Proratehouse$Bill" "amount" "I" ∈ lw_good := lw_g 923 (by decide +kernel) (by decide +kernel)
theorem w_924 : Jvm.Cond.fieldLink "Proratehouse" (353 : Nat) "Proratehouse$Bill" "amount" "I" ∈ lw_good := lw_g 924 (by decide +kernel) (by decide +kernel)
theorem w_925 : Jvm.Cond.fieldLink "Proratehouse$Bill" (9 : Nat) "Proratehouse$Bill" "status" "I" ∈ lw_good := lw_g 925 (by decide +kernel) (by decide +kernel)
theorem w_926 : Jvm.Cond.fieldLink "Proratehouse" (318 : Nat) "Proratehouse$Bill" "status" "I" ∈ lw_good := lw_g 926 (by decide +kernel) (by decide +kernel)
theorem w_927 : Jvm.Cond.fieldLink "Proratehouse$Bill" (31 : Nat) "Proratehouse$Bill" "rejections" "I" ∈ lw_good := lw_g 927 (by decide +kernel) (by decide +kernel)
theorem w_928 : Jvm.Cond.fieldLink "Proratehouse" (329 : Nat) "Proratehouse$Bill" "rejections" "I" ∈ lw_good := lw_g 928 (by decide +kernel) (by decide +kernel)
theorem w_929 : Jvm.Cond.fieldLink "Proratehouse$Bill" (24 : Nat) "Proratehouse$Bill" "settledBy" "I" ∈ lw_good := lw_g 929 (by decide +kernel) (by decide +kernel)
theorem w_930 : Jvm.Cond.fieldLink "Proratehouse" (321 : Nat) "Proratehouse$Bill" "settledBy" "I" ∈ lw_good := lw_g 930 (by decide +kernel) (by decide +kernel)
theorem w_944 : Jvm.Cond.methodLink "ProratehouseLaw" (213 : Nat) ({ cls := "ProratehouseLaw", name := "clears", desc := "(LProratehouse;[III)Z" } : Jvm.MethodName) ∈ lw_good := lw_g 944 (by decide +kernel) (by decide +kernel)
theorem w_945 : Jvm.Cond.static ({ cls := "ProratehouseLaw", name := "clears", desc := "(LProratehouse;[III)Z" } : Jvm.MethodName) ∈ lw_good := lw_g 945 (by decide +kernel) (by decide +kernel)
theorem w_946 : Jvm.Cond.code ({ cls := "ProratehouseLaw", name := "clears", desc := "(LProratehouse;[III)Z" } : Jvm.MethodName) method_38_code (9 : Nat) (Option.some Jvm.ClassFile.FieldType.boolean) ∈ lw_good := lw_g 946 (by decide +kernel) (by decide +kernel)
theorem w_947 : Jvm.Cond.methodLink "ProratehouseLaw" (182 : Nat) ({ cls := "Proratehouse", name := "clear", desc := "()J" } : Jvm.MethodName) ∈ lw_good := lw_g 947 (by decide +kernel) (by decide +kernel)
theorem w_948 : Jvm.Cond.instanceMethod ({ cls := "Proratehouse", name := "clear", desc := "()J" } : Jvm.MethodName) ∈ lw_good := lw_g 948 (by decide +kernel) (by decide +kernel)
theorem w_949 : Jvm.Cond.selects "Proratehouse" ({ cls := "Proratehouse", name := "clear", desc := "()J" } : Jvm.MethodName) ({ cls := "Proratehouse", name := "clear", desc := "()J" } : Jvm.MethodName) ∈ lw_good := lw_g 949 (by decide +kernel) (by decide +kernel)
theorem w_950 : Jvm.Cond.code ({ cls := "Proratehouse", name := "clear", desc := "()J" } : Jvm.MethodName) prog_1_method_22_code (1 : Nat) (Option.some Jvm.ClassFile.FieldType.long) ∈ lw_good := lw_g 950 (by decide +kernel) (by decide +kernel)
theorem w_951 : Jvm.Cond.methodLink "Proratehouse" (302 : Nat) ({ cls := "Proratehouse$Clearing", name := "settle", desc := "()V" } : Jvm.MethodName) ∈ lw_good := lw_g 951 (by decide +kernel) (by decide +kernel)
theorem w_952 : Jvm.Cond.instanceMethod ({ cls := "Proratehouse$Clearing", name := "settle", desc := "()V" } : Jvm.MethodName) ∈ lw_good := lw_g 952 (by decide +kernel) (by decide +kernel)
theorem w_953 : Jvm.Cond.selects "Proratehouse$Clearing" ({ cls := "Proratehouse$Clearing", name := "settle", desc := "()V" } : Jvm.MethodName) ({ cls := "Proratehouse$Clearing", name := "settle", desc := "()V" } : Jvm.MethodName) ∈ lw_good := lw_g 953 (by decide +kernel) (by decide +kernel)
theorem w_954 : Jvm.Cond.code ({ cls := "Proratehouse$Clearing", name := "settle", desc := "()V" } : Jvm.MethodName) prog_3_method_6_code (3 : Nat) (Option.none : Option Jvm.ClassFile.FieldType) ∈ lw_good := lw_g 954 (by decide +kernel) (by decide +kernel)
theorem w_955 : Jvm.Cond.methodLink "Proratehouse$Clearing" (35 : Nat) ({ cls := "Proratehouse$Clearing", name := "forgetNets", desc := "()V" } : Jvm.MethodName) ∈ lw_good := lw_g 955 (by decide +kernel) (by decide +kernel)
theorem w_957 : Jvm.Cond.instanceMethod ({ cls := "Proratehouse$Clearing", name := "forgetNets", desc := "()V" } : Jvm.MethodName) ∈ lw_good := lw_g 957 (by decide +kernel) (by decide +kernel)
theorem w_958 : Jvm.Cond.code ({ cls := "Proratehouse$Clearing", name := "forgetNets", desc := "()V" } : Jvm.MethodName) prog_3_method_8_code (2 : Nat) (Option.none : Option Jvm.ClassFile.FieldType) ∈ lw_good := lw_g 958 (by decide +kernel) (by decide +kernel)
theorem w_959 : Jvm.Cond.methodLink "Proratehouse$Clearing" (45 : Nat) ({ cls := "Proratehouse$Bill", name := "isToBeSettled", desc := "()Z" } : Jvm.MethodName) ∈ lw_good := lw_g 959 (by decide +kernel) (by decide +kernel)
theorem w_960 : Jvm.Cond.instanceMethod ({ cls := "Proratehouse$Bill", name := "isToBeSettled", desc := "()Z" } : Jvm.MethodName) ∈ lw_good := lw_g 960 (by decide +kernel) (by decide +kernel)
theorem w_961 : Jvm.Cond.selects "Proratehouse$Bill" ({ cls := "Proratehouse$Bill", name := "isToBeSettled", desc := "()Z" } : Jvm.MethodName) ({ cls := "Proratehouse$Bill", name := "isToBeSettled", desc := "()Z" } : Jvm.MethodName) ∈ lw_good := lw_g 961 (by decide +kernel) (by decide +kernel)
theorem w_962 : Jvm.Cond.code ({ cls := "Proratehouse$Bill", name := "isToBeSettled", desc := "()Z" } : Jvm.MethodName) prog_2_method_3_code (1 : Nat) (Option.some Jvm.ClassFile.FieldType.boolean) ∈ lw_good := lw_g 962 (by decide +kernel) (by decide +kernel)
theorem w_963 : Jvm.Cond.methodLink "Proratehouse$Clearing" (52 : Nat) ({ cls := "Proratehouse$Clearing", name := "isInDefault", desc := "(I)Z" } : Jvm.MethodName) ∈ lw_good := lw_g 963 (by decide +kernel) (by decide +kernel)
theorem w_964 : Jvm.Cond.instanceMethod ({ cls := "Proratehouse$Clearing", name := "isInDefault", desc := "(I)Z" } : Jvm.MethodName) ∈ lw_good := lw_g 964 (by decide +kernel) (by decide +kernel)
theorem w_965 : Jvm.Cond.selects "Proratehouse$Clearing" ({ cls := "Proratehouse$Clearing", name := "isInDefault", desc := "(I)Z" } : Jvm.MethodName) ({ cls := "Proratehouse$Clearing", name := "isInDefault", desc := "(I)Z" } : Jvm.MethodName) ∈ lw_good := lw_g 965 (by decide +kernel) (by decide +kernel)
theorem w_966 : Jvm.Cond.code ({ cls := "Proratehouse$Clearing", name := "isInDefault", desc := "(I)Z" } : Jvm.MethodName) prog_3_method_4_code (2 : Nat) (Option.some Jvm.ClassFile.FieldType.boolean) ∈ lw_good := lw_g 966 (by decide +kernel) (by decide +kernel)
theorem w_968 : Jvm.Cond.methodLink "Proratehouse$Clearing" (58 : Nat) ({ cls := "Proratehouse$Bill", name := "settle", desc := "(I)I" } : Jvm.MethodName) ∈ lw_good := lw_g 968 (by decide +kernel) (by decide +kernel)
theorem w_969 : Jvm.Cond.instanceMethod ({ cls := "Proratehouse$Bill", name := "settle", desc := "(I)I" } : Jvm.MethodName) ∈ lw_good := lw_g 969 (by decide +kernel) (by decide +kernel)
theorem w_970 : Jvm.Cond.selects "Proratehouse$Bill" ({ cls := "Proratehouse$Bill", name := "settle", desc := "(I)I" } : Jvm.MethodName) ({ cls := "Proratehouse$Bill", name := "settle", desc := "(I)I" } : Jvm.MethodName) ∈ lw_good := lw_g 970 (by decide +kernel) (by decide +kernel)
theorem w_971 : Jvm.Cond.code ({ cls := "Proratehouse$Bill", name := "settle", desc := "(I)I" } : Jvm.MethodName) prog_2_method_6_code (2 : Nat) (Option.some Jvm.ClassFile.FieldType.int) ∈ lw_good := lw_g 971 (by decide +kernel) (by decide +kernel)
theorem w_972 : Jvm.Cond.methodLink "Proratehouse$Bill" (34 : Nat) ({ cls := "Proratehouse$Bill", name := "amountBack", desc := "()I" } : Jvm.MethodName) ∈ lw_good := lw_g 972 (by decide +kernel) (by decide +kernel)
theorem w_974 : Jvm.Cond.instanceMethod ({ cls := "Proratehouse$Bill", name := "amountBack", desc := "()I" } : Jvm.MethodName) ∈ lw_good := lw_g 974 (by decide +kernel) (by decide +kernel)
theorem w_975 : Jvm.Cond.code ({ cls := "Proratehouse$Bill", name := "amountBack", desc := "()I" } : Jvm.MethodName) prog_2_method_5_code (1 : Nat) (Option.some Jvm.ClassFile.FieldType.int) ∈ lw_good := lw_g 975 (by decide +kernel) (by decide +kernel)
theorem w_976 : Jvm.Cond.methodLink "Proratehouse$Clearing" (62 : Nat) ({ cls := "Proratehouse$Clearing", name := "addToNets", desc := "(LProratehouse$Bill;I)V" } : Jvm.MethodName) ∈ lw_good := lw_g 976 (by decide +kernel) (by decide +kernel)
theorem w_978 : Jvm.Cond.instanceMethod ({ cls := "Proratehouse$Clearing", name := "addToNets", desc := "(LProratehouse$Bill;I)V" } : Jvm.MethodName) ∈ lw_good := lw_g 978 (by decide +kernel) (by decide +kernel)
theorem w_979 : Jvm.Cond.code ({ cls := "Proratehouse$Clearing", name := "addToNets", desc := "(LProratehouse$Bill;I)V" } : Jvm.MethodName) prog_3_method_9_code (3 : Nat) (Option.none : Option Jvm.ClassFile.FieldType) ∈ lw_good := lw_g 979 (by decide +kernel) (by decide +kernel)
theorem w_980 : Jvm.Cond.methodLink "Proratehouse" (305 : Nat) ({ cls := "Proratehouse", name := "moveNets", desc := "()V" } : Jvm.MethodName) ∈ lw_good := lw_g 980 (by decide +kernel) (by decide +kernel)
theorem w_982 : Jvm.Cond.instanceMethod ({ cls := "Proratehouse", name := "moveNets", desc := "()V" } : Jvm.MethodName) ∈ lw_good := lw_g 982 (by decide +kernel) (by decide +kernel)
theorem w_983 : Jvm.Cond.code ({ cls := "Proratehouse", name := "moveNets", desc := "()V" } : Jvm.MethodName) prog_1_method_43_code (2 : Nat) (Option.none : Option Jvm.ClassFile.FieldType) ∈ lw_good := lw_g 983 (by decide +kernel) (by decide +kernel)
theorem w_984 : Jvm.Cond.methodLink "Proratehouse" (413 : Nat) ({ cls := "Proratehouse$Clearing", name := "netOf", desc := "(I)J" } : Jvm.MethodName) ∈ lw_good := lw_g 984 (by decide +kernel) (by decide +kernel)
theorem w_985 : Jvm.Cond.instanceMethod ({ cls := "Proratehouse$Clearing", name := "netOf", desc := "(I)J" } : Jvm.MethodName) ∈ lw_good := lw_g 985 (by decide +kernel) (by decide +kernel)
theorem w_986 : Jvm.Cond.selects "Proratehouse$Clearing" ({ cls := "Proratehouse$Clearing", name := "netOf", desc := "(I)J" } : Jvm.MethodName) ({ cls := "Proratehouse$Clearing", name := "netOf", desc := "(I)J" } : Jvm.MethodName) ∈ lw_good := lw_g 986 (by decide +kernel) (by decide +kernel)
theorem w_987 : Jvm.Cond.code ({ cls := "Proratehouse$Clearing", name := "netOf", desc := "(I)J" } : Jvm.MethodName) prog_3_method_10_code (2 : Nat) (Option.some Jvm.ClassFile.FieldType.long) ∈ lw_good := lw_g 987 (by decide +kernel) (by decide +kernel)
theorem w_988 : Jvm.Cond.methodLink "Proratehouse" (308 : Nat) ({ cls := "Proratehouse$Clearing", name := "sumOfNetsAboveZero", desc := "()J" } : Jvm.MethodName) ∈ lw_good := lw_g 988 (by decide +kernel) (by decide +kernel)
theorem w_989 : Jvm.Cond.instanceMethod ({ cls := "Proratehouse$Clearing", name := "sumOfNetsAboveZero", desc := "()J" } : Jvm.MethodName) ∈ lw_good := lw_g 989 (by decide +kernel) (by decide +kernel)
theorem w_990 : Jvm.Cond.selects "Proratehouse$Clearing" ({ cls := "Proratehouse$Clearing", name := "sumOfNetsAboveZero", desc := "()J" } : Jvm.MethodName) ({ cls := "Proratehouse$Clearing", name := "sumOfNetsAboveZero", desc := "()J" } : Jvm.MethodName) ∈ lw_good := lw_g 990 (by decide +kernel) (by decide +kernel)
theorem w_991 : Jvm.Cond.code ({ cls := "Proratehouse$Clearing", name := "sumOfNetsAboveZero", desc := "()J" } : Jvm.MethodName) prog_3_method_11_code (4 : Nat) (Option.some Jvm.ClassFile.FieldType.long) ∈ lw_good := lw_g 991 (by decide +kernel) (by decide +kernel)
theorem w_992 : Jvm.Cond.methodLink "Proratehouse$Clearing" (76 : Nat) ({ cls := "Proratehouse$Clearing", name := "netOf", desc := "(I)J" } : Jvm.MethodName) ∈ lw_good := lw_g 992 (by decide +kernel) (by decide +kernel)
theorem w_993 : Jvm.Cond.methodLink "Proratehouse$Clearing" (80 : Nat) ({ cls := "java/lang/Math", name := "max", desc := "(JJ)J" } : Jvm.MethodName) ∈ lw_good := lw_g 993 (by decide +kernel) (by decide +kernel)
theorem w_994 : Jvm.Cond.static ({ cls := "java/lang/Math", name := "max", desc := "(JJ)J" } : Jvm.MethodName) ∈ lw_good := lw_g 994 (by decide +kernel) (by decide +kernel)
theorem w_995 : Jvm.Cond.code ({ cls := "java/lang/Math", name := "max", desc := "(JJ)J" } : Jvm.MethodName) prog_19_method_66_code (4 : Nat) (Option.some Jvm.ClassFile.FieldType.long) ∈ lw_good := lw_g 995 (by decide +kernel) (by decide +kernel)
theorem w_996 : Jvm.Cond.methodLink "ProratehouseLaw" (185 : Nat) ({ cls := "ProratehouseLaw", name := "fails", desc := "(LProratehouse;IZ)I" } : Jvm.MethodName) ∈ lw_good := lw_g 996 (by decide +kernel) (by decide +kernel)
theorem w_997 : Jvm.Cond.static ({ cls := "ProratehouseLaw", name := "fails", desc := "(LProratehouse;IZ)I" } : Jvm.MethodName) ∈ lw_good := lw_g 997 (by decide +kernel) (by decide +kernel)
theorem w_998 : Jvm.Cond.codeWith ({ cls := "ProratehouseLaw", name := "fails", desc := "(LProratehouse;IZ)I" } : Jvm.MethodName) method_22_code (4 : Nat) (Option.some Jvm.ClassFile.FieldType.int) [((0 : Nat), (6 : Nat), (7 : Nat), (16 : Nat))] ∈ lw_good := lw_g 998 (by decide +kernel) (by decide +kernel)
theorem w_999 : Jvm.Cond.methodLink "ProratehouseLaw" (82 : Nat) ({ cls := "Proratehouse", name := "fails", desc := "(IZ)I" } : Jvm.MethodName) ∈ lw_good := lw_g 999 (by decide +kernel) (by decide +kernel)
theorem w_1000 : Jvm.Cond.instanceMethod ({ cls := "Proratehouse", name := "fails", desc := "(IZ)I" } : Jvm.MethodName) ∈ lw_good := lw_g 1000 (by decide +kernel) (by decide +kernel)
theorem w_1001 : Jvm.Cond.selects "Proratehouse" ({ cls := "Proratehouse", name := "fails", desc := "(IZ)I" } : Jvm.MethodName) ({ cls := "Proratehouse", name := "fails", desc := "(IZ)I" } : Jvm.MethodName) ∈ lw_good := lw_g 1001 (by decide +kernel) (by decide +kernel)
theorem w_1002 : Jvm.Cond.code ({ cls := "Proratehouse", name := "fails", desc := "(IZ)I" } : Jvm.MethodName) prog_1_method_25_code (5 : Nat) (Option.some Jvm.ClassFile.FieldType.int) ∈ lw_good := lw_g 1002 (by decide +kernel) (by decide +kernel)
theorem w_1003 : Jvm.Cond.methodLink "Proratehouse" (334 : Nat) ({ cls := "Proratehouse$Clearing", name := "isInDefault", desc := "(I)Z" } : Jvm.MethodName) ∈ lw_good := lw_g 1003 (by decide +kernel) (by decide +kernel)
theorem w_1004 : Jvm.Cond.methodLink "Proratehouse" (337 : Nat) ({ cls := "Proratehouse$Clearing", name := "putDefault", desc := "(IZ)V" } : Jvm.MethodName) ∈ lw_good := lw_g 1004 (by decide +kernel) (by decide +kernel)
theorem w_1005 : Jvm.Cond.instanceMethod ({ cls := "Proratehouse$Clearing", name := "putDefault", desc := "(IZ)V" } : Jvm.MethodName) ∈ lw_good := lw_g 1005 (by decide +kernel) (by decide +kernel)
theorem w_1006 : Jvm.Cond.selects "Proratehouse$Clearing" ({ cls := "Proratehouse$Clearing", name := "putDefault", desc := "(IZ)V" } : Jvm.MethodName) ({ cls := "Proratehouse$Clearing", name := "putDefault", desc := "(IZ)V" } : Jvm.MethodName) ∈ lw_good := lw_g 1006 (by decide +kernel) (by decide +kernel)
theorem w_1007 : Jvm.Cond.code ({ cls := "Proratehouse$Clearing", name := "putDefault", desc := "(IZ)V" } : Jvm.MethodName) prog_3_method_5_code (3 : Nat) (Option.none : Option Jvm.ClassFile.FieldType) ∈ lw_good := lw_g 1007 (by decide +kernel) (by decide +kernel)
theorem w_1008 : Jvm.Cond.methodLink "Proratehouse" (341 : Nat) ({ cls := "Proratehouse$Clearing", name := "undo", desc := "(I)I" } : Jvm.MethodName) ∈ lw_good := lw_g 1008 (by decide +kernel) (by decide +kernel)
theorem w_1009 : Jvm.Cond.instanceMethod ({ cls := "Proratehouse$Clearing", name := "undo", desc := "(I)I" } : Jvm.MethodName) ∈ lw_good := lw_g 1009 (by decide +kernel) (by decide +kernel)
theorem w_1010 : Jvm.Cond.selects "Proratehouse$Clearing" ({ cls := "Proratehouse$Clearing", name := "undo", desc := "(I)I" } : Jvm.MethodName) ({ cls := "Proratehouse$Clearing", name := "undo", desc := "(I)I" } : Jvm.MethodName) ∈ lw_good := lw_g 1010 (by decide +kernel) (by decide +kernel)
theorem w_1011 : Jvm.Cond.code ({ cls := "Proratehouse$Clearing", name := "undo", desc := "(I)I" } : Jvm.MethodName) prog_3_method_7_code (5 : Nat) (Option.some Jvm.ClassFile.FieldType.int) ∈ lw_good := lw_g 1011 (by decide +kernel) (by decide +kernel)
theorem w_1012 : Jvm.Cond.methodLink "Proratehouse$Clearing" (66 : Nat) ({ cls := "Proratehouse$Bill", name := "isOf", desc := "(I)Z" } : Jvm.MethodName) ∈ lw_good := lw_g 1012 (by decide +kernel) (by decide +kernel)
theorem w_1013 : Jvm.Cond.instanceMethod ({ cls := "Proratehouse$Bill", name := "isOf", desc := "(I)Z" } : Jvm.MethodName) ∈ lw_good := lw_g 1013 (by decide +kernel) (by decide +kernel)
theorem w_1014 : Jvm.Cond.selects "Proratehouse$Bill" ({ cls := "Proratehouse$Bill", name := "isOf", desc := "(I)Z" } : Jvm.MethodName) ({ cls := "Proratehouse$Bill", name := "isOf", desc := "(I)Z" } : Jvm.MethodName) ∈ lw_good := lw_g 1014 (by decide +kernel) (by decide +kernel)
theorem w_1015 : Jvm.Cond.code ({ cls := "Proratehouse$Bill", name := "isOf", desc := "(I)Z" } : Jvm.MethodName) prog_2_method_2_code (2 : Nat) (Option.some Jvm.ClassFile.FieldType.boolean) ∈ lw_good := lw_g 1015 (by decide +kernel) (by decide +kernel)
theorem w_1016 : Jvm.Cond.methodLink "Proratehouse$Clearing" (69 : Nat) ({ cls := "Proratehouse$Bill", name := "isAsLeftBy", desc := "(I)Z" } : Jvm.MethodName) ∈ lw_good := lw_g 1016 (by decide +kernel) (by decide +kernel)
theorem w_1017 : Jvm.Cond.instanceMethod ({ cls := "Proratehouse$Bill", name := "isAsLeftBy", desc := "(I)Z" } : Jvm.MethodName) ∈ lw_good := lw_g 1017 (by decide +kernel) (by decide +kernel)
theorem w_1018 : Jvm.Cond.selects "Proratehouse$Bill" ({ cls := "Proratehouse$Bill", name := "isAsLeftBy", desc := "(I)Z" } : Jvm.MethodName) ({ cls := "Proratehouse$Bill", name := "isAsLeftBy", desc := "(I)Z" } : Jvm.MethodName) ∈ lw_good := lw_g 1018 (by decide +kernel) (by decide +kernel)
theorem w_1019 : Jvm.Cond.code ({ cls := "Proratehouse$Bill", name := "isAsLeftBy", desc := "(I)Z" } : Jvm.MethodName) prog_2_method_4_code (2 : Nat) (Option.some Jvm.ClassFile.FieldType.boolean) ∈ lw_good := lw_g 1019 (by decide +kernel) (by decide +kernel)
theorem w_1020 : Jvm.Cond.methodLink "Proratehouse$Bill" (27 : Nat) ({ cls := "Proratehouse$Bill", name := "isToBeSettled", desc := "()Z" } : Jvm.MethodName) ∈ lw_good := lw_g 1020 (by decide +kernel) (by decide +kernel)
theorem w_1021 : Jvm.Cond.methodLink "Proratehouse$Clearing" (72 : Nat) ({ cls := "Proratehouse$Bill", name := "undo", desc := "()I" } : Jvm.MethodName) ∈ lw_good := lw_g 1021 (by decide +kernel) (by decide +kernel)
theorem w_1022 : Jvm.Cond.instanceMethod ({ cls := "Proratehouse$Bill", name := "undo", desc := "()I" } : Jvm.MethodName) ∈ lw_good := lw_g 1022 (by decide +kernel) (by decide +kernel)
theorem w_1023 : Jvm.Cond.selects "Proratehouse$Bill" ({ cls := "Proratehouse$Bill", name := "undo", desc := "()I" } : Jvm.MethodName) ({ cls := "Proratehouse$Bill", name := "undo", desc := "()I" } : Jvm.MethodName) ∈ lw_good := lw_g 1023 (by decide +kernel) (by decide +kernel)
theorem w_1024 : Jvm.Cond.code ({ cls := "Proratehouse$Bill", name := "undo", desc := "()I" } : Jvm.MethodName) prog_2_method_7_code (1 : Nat) (Option.some Jvm.ClassFile.FieldType.int) ∈ lw_good := lw_g 1024 (by decide +kernel) (by decide +kernel)
theorem w_1025 : Jvm.Cond.methodLink "ProratehouseLaw" (188 : Nat) ({ cls := "ProratehouseLaw", name := "reject", desc := "(LProratehouse;I)I" } : Jvm.MethodName) ∈ lw_good := lw_g 1025 (by decide +kernel) (by decide +kernel)
theorem w_1026 : Jvm.Cond.static ({ cls := "ProratehouseLaw", name := "reject", desc := "(LProratehouse;I)I" } : Jvm.MethodName) ∈ lw_good := lw_g 1026 (by decide +kernel) (by decide +kernel)
theorem w_1027 : Jvm.Cond.codeWith ({ cls := "ProratehouseLaw", name := "reject", desc := "(LProratehouse;I)I" } : Jvm.MethodName) method_20_code (3 : Nat) (Option.some Jvm.ClassFile.FieldType.int) [((0 : Nat), (5 : Nat), (6 : Nat), (16 : Nat)), ((0 : Nat), (5 : Nat), (10 : Nat), (26 : Nat))] ∈ lw_good := lw_g 1027 (by decide +kernel) (by decide +kernel)
theorem w_1028 : Jvm.Cond.methodLink "ProratehouseLaw" (76 : Nat) ({ cls := "Proratehouse", name := "reject", desc := "(I)I" } : Jvm.MethodName) ∈ lw_good := lw_g 1028 (by decide +kernel) (by decide +kernel)
theorem w_1029 : Jvm.Cond.instanceMethod ({ cls := "Proratehouse", name := "reject", desc := "(I)I" } : Jvm.MethodName) ∈ lw_good := lw_g 1029 (by decide +kernel) (by decide +kernel)
theorem w_1030 : Jvm.Cond.selects "Proratehouse" ({ cls := "Proratehouse", name := "reject", desc := "(I)I" } : Jvm.MethodName) ({ cls := "Proratehouse", name := "reject", desc := "(I)I" } : Jvm.MethodName) ∈ lw_good := lw_g 1030 (by decide +kernel) (by decide +kernel)
theorem w_1031 : Jvm.Cond.code ({ cls := "Proratehouse", name := "reject", desc := "(I)I" } : Jvm.MethodName) prog_1_method_23_code (3 : Nat) (Option.some Jvm.ClassFile.FieldType.int) ∈ lw_good := lw_g 1031 (by decide +kernel) (by decide +kernel)
theorem w_1033 : Jvm.Cond.methodLink "ProratehouseLaw" (190 : Nat) ({ cls := "ProratehouseLaw", name := "rebill", desc := "(LProratehouse;I)I" } : Jvm.MethodName) ∈ lw_good := lw_g 1033 (by decide +kernel) (by decide +kernel)
theorem w_1034 : Jvm.Cond.static ({ cls := "ProratehouseLaw", name := "rebill", desc := "(LProratehouse;I)I" } : Jvm.MethodName) ∈ lw_good := lw_g 1034 (by decide +kernel) (by decide +kernel)
theorem w_1035 : Jvm.Cond.codeWith ({ cls := "ProratehouseLaw", name := "rebill", desc := "(LProratehouse;I)I" } : Jvm.MethodName) method_21_code (3 : Nat) (Option.some Jvm.ClassFile.FieldType.int) [((0 : Nat), (6 : Nat), (7 : Nat), (16 : Nat)), ((0 : Nat), (6 : Nat), (11 : Nat), (26 : Nat))] ∈ lw_good := lw_g 1035 (by decide +kernel) (by decide +kernel)
theorem w_1036 : Jvm.Cond.methodLink "ProratehouseLaw" (79 : Nat) ({ cls := "Proratehouse", name := "rebill", desc := "(I)V" } : Jvm.MethodName) ∈ lw_good := lw_g 1036 (by decide +kernel) (by decide +kernel)
theorem w_1037 : Jvm.Cond.instanceMethod ({ cls := "Proratehouse", name := "rebill", desc := "(I)V" } : Jvm.MethodName) ∈ lw_good := lw_g 1037 (by decide +kernel) (by decide +kernel)
theorem w_1038 : Jvm.Cond.selects "Proratehouse" ({ cls := "Proratehouse", name := "rebill", desc := "(I)V" } : Jvm.MethodName) ({ cls := "Proratehouse", name := "rebill", desc := "(I)V" } : Jvm.MethodName) ∈ lw_good := lw_g 1038 (by decide +kernel) (by decide +kernel)
theorem w_1039 : Jvm.Cond.code ({ cls := "Proratehouse", name := "rebill", desc := "(I)V" } : Jvm.MethodName) prog_1_method_24_code (3 : Nat) (Option.none : Option Jvm.ClassFile.FieldType) ∈ lw_good := lw_g 1039 (by decide +kernel) (by decide +kernel)
theorem w_1041 : Jvm.Cond.methodLink "ProratehouseLaw" (216 : Nat) ({ cls := "ProratehouseLaw", name := "pass", desc := "(LProratehouse;I)I" } : Jvm.MethodName) ∈ lw_good := lw_g 1041 (by decide +kernel) (by decide +kernel)
theorem w_1042 : Jvm.Cond.static ({ cls := "ProratehouseLaw", name := "pass", desc := "(LProratehouse;I)I" } : Jvm.MethodName) ∈ lw_good := lw_g 1042 (by decide +kernel) (by decide +kernel)
theorem w_1043 : Jvm.Cond.codeWith ({ cls := "ProratehouseLaw", name := "pass", desc := "(LProratehouse;I)I" } : Jvm.MethodName) method_19_code (3 : Nat) (Option.some Jvm.ClassFile.FieldType.int) [((0 : Nat), (5 : Nat), (6 : Nat), (19 : Nat)), ((0 : Nat), (5 : Nat), (10 : Nat), (26 : Nat))] ∈ lw_good := lw_g 1043 (by decide +kernel) (by decide +kernel)
theorem w_1044 : Jvm.Cond.methodLink "ProratehouseLaw" (73 : Nat) ({ cls := "Proratehouse", name := "pass", desc := "(I)I" } : Jvm.MethodName) ∈ lw_good := lw_g 1044 (by decide +kernel) (by decide +kernel)
theorem w_1045 : Jvm.Cond.instanceMethod ({ cls := "Proratehouse", name := "pass", desc := "(I)I" } : Jvm.MethodName) ∈ lw_good := lw_g 1045 (by decide +kernel) (by decide +kernel)
theorem w_1046 : Jvm.Cond.selects "Proratehouse" ({ cls := "Proratehouse", name := "pass", desc := "(I)I" } : Jvm.MethodName) ({ cls := "Proratehouse", name := "pass", desc := "(I)I" } : Jvm.MethodName) ∈ lw_good := lw_g 1046 (by decide +kernel) (by decide +kernel)
theorem w_1047 : Jvm.Cond.code ({ cls := "Proratehouse", name := "pass", desc := "(I)I" } : Jvm.MethodName) prog_1_method_21_code (2 : Nat) (Option.some Jvm.ClassFile.FieldType.int) ∈ lw_good := lw_g 1047 (by decide +kernel) (by decide +kernel)
theorem w_0 : Jvm.Cond.selects "java/lang/Throwable" ({ cls := "java/lang/Throwable", name := "fillInStackTrace", desc := "(I)Ljava/lang/Throwable;" } : Jvm.MethodName) ({ cls := "java/lang/Throwable", name := "fillInStackTrace", desc := "(I)Ljava/lang/Throwable;" } : Jvm.MethodName) ∈ lw_good := lw_g 0 (by decide +kernel) (by decide +kernel)
theorem w_1 : Jvm.Cond.selects "Proratehouse" ({ cls := "Proratehouse", name := "ticketAt", desc := "(I)LProratehouse$Ticket;" } : Jvm.MethodName) ({ cls := "Proratehouse", name := "ticketAt", desc := "(I)LProratehouse$Ticket;" } : Jvm.MethodName) ∈ lw_good := lw_g 1 (by decide +kernel) (by decide +kernel)
theorem w_2 : Jvm.Cond.selects "Proratehouse$Proration" ({ cls := "Proratehouse$Proration", name := "provisoOf", desc := "(III)I" } : Jvm.MethodName) ({ cls := "Proratehouse$Proration", name := "provisoOf", desc := "(III)I" } : Jvm.MethodName) ∈ lw_good := lw_g 2 (by decide +kernel) (by decide +kernel)
theorem w_3 : Jvm.Cond.selects "Proratehouse$Journey" ({ cls := "Proratehouse$Journey", name := "stopsBetween", desc := "(II)I" } : Jvm.MethodName) ({ cls := "Proratehouse$Journey", name := "stopsBetween", desc := "(II)I" } : Jvm.MethodName) ∈ lw_good := lw_g 3 (by decide +kernel) (by decide +kernel)
theorem w_4 : Jvm.Cond.selects "Proratehouse$Journey" ({ cls := "Proratehouse$Journey", name := "milesOfLegs", desc := "(LProratehouse$Pairs;II)I" } : Jvm.MethodName) ({ cls := "Proratehouse$Journey", name := "milesOfLegs", desc := "(LProratehouse$Pairs;II)I" } : Jvm.MethodName) ∈ lw_good := lw_g 4 (by decide +kernel) (by decide +kernel)
theorem w_5 : Jvm.Cond.selects "Proratehouse$Journey" ({ cls := "Proratehouse$Journey", name := "highestBetween", desc := "(LProratehouse$Tariff;II)I" } : Jvm.MethodName) ({ cls := "Proratehouse$Journey", name := "highestBetween", desc := "(LProratehouse$Tariff;II)I" } : Jvm.MethodName) ∈ lw_good := lw_g 5 (by decide +kernel) (by decide +kernel)
theorem w_6 : Jvm.Cond.selects "Proratehouse$Ways" ({ cls := "Proratehouse$Ways", name := "goOn", desc := "(III)V" } : Jvm.MethodName) ({ cls := "Proratehouse$Ways", name := "goOn", desc := "(III)V" } : Jvm.MethodName) ∈ lw_good := lw_g 6 (by decide +kernel) (by decide +kernel)
theorem w_7 : Jvm.Cond.selects "Proratehouse$Ways" ({ cls := "Proratehouse$Ways", name := "sumOfSet", desc := "(II)I" } : Jvm.MethodName) ({ cls := "Proratehouse$Ways", name := "sumOfSet", desc := "(II)I" } : Jvm.MethodName) ∈ lw_good := lw_g 7 (by decide +kernel) (by decide +kernel)
theorem w_8 : Jvm.Cond.selects "Proratehouse" ({ cls := "Proratehouse", name := "canBeIssued", desc := "()Z" } : Jvm.MethodName) ({ cls := "Proratehouse", name := "canBeIssued", desc := "()Z" } : Jvm.MethodName) ∈ lw_good := lw_g 8 (by decide +kernel) (by decide +kernel)
theorem w_9 : Jvm.Cond.selects "Proratehouse" ({ cls := "Proratehouse", name := "issued", desc := "(I)LProratehouse$Ticket;" } : Jvm.MethodName) ({ cls := "Proratehouse", name := "issued", desc := "(I)LProratehouse$Ticket;" } : Jvm.MethodName) ∈ lw_good := lw_g 9 (by decide +kernel) (by decide +kernel)
theorem w_10 : Jvm.Cond.selects "Proratehouse" ({ cls := "Proratehouse", name := "shareOut", desc := "(LProratehouse$Ticket;)V" } : Jvm.MethodName) ({ cls := "Proratehouse", name := "shareOut", desc := "(LProratehouse$Ticket;)V" } : Jvm.MethodName) ∈ lw_good := lw_g 10 (by decide +kernel) (by decide +kernel)
theorem w_11 : Jvm.Cond.selects "Proratehouse$Proration" ({ cls := "Proratehouse$Proration", name := "weightOf", desc := "(LProratehouse$Coupon;LProratehouse$Pairs;)I" } : Jvm.MethodName) ({ cls := "Proratehouse$Proration", name := "weightOf", desc := "(LProratehouse$Coupon;LProratehouse$Pairs;)I" } : Jvm.MethodName) ∈ lw_good := lw_g 11 (by decide +kernel) (by decide +kernel)
theorem w_12 : Jvm.Cond.selects "Proratehouse$Proration" ({ cls := "Proratehouse$Proration", name := "shareByWeights", desc := "(LProratehouse$Ticket;IIII)V" } : Jvm.MethodName) ({ cls := "Proratehouse$Proration", name := "shareByWeights", desc := "(LProratehouse$Ticket;IIII)V" } : Jvm.MethodName) ∈ lw_good := lw_g 12 (by decide +kernel) (by decide +kernel)
theorem w_13 : Jvm.Cond.selects "Proratehouse" ({ cls := "Proratehouse", name := "receive", desc := "(LProratehouse$Ticket;I)V" } : Jvm.MethodName) ({ cls := "Proratehouse", name := "receive", desc := "(LProratehouse$Ticket;I)V" } : Jvm.MethodName) ∈ lw_good := lw_g 13 (by decide +kernel) (by decide +kernel)
theorem w_14 : Jvm.Cond.selects "Proratehouse" ({ cls := "Proratehouse", name := "addCash", desc := "(IJ)V" } : Jvm.MethodName) ({ cls := "Proratehouse", name := "addCash", desc := "(IJ)V" } : Jvm.MethodName) ∈ lw_good := lw_g 14 (by decide +kernel) (by decide +kernel)
theorem w_15 : Jvm.Cond.selects "Proratehouse$Ticket" ({ cls := "Proratehouse$Ticket", name := "openAt", desc := "(I)LProratehouse$Coupon;" } : Jvm.MethodName) ({ cls := "Proratehouse$Ticket", name := "openAt", desc := "(I)LProratehouse$Coupon;" } : Jvm.MethodName) ∈ lw_good := lw_g 15 (by decide +kernel) (by decide +kernel)
theorem w_16 : Jvm.Cond.selects "Proratehouse$Clearing" ({ cls := "Proratehouse$Clearing", name := "forgetNets", desc := "()V" } : Jvm.MethodName) ({ cls := "Proratehouse$Clearing", name := "forgetNets", desc := "()V" } : Jvm.MethodName) ∈ lw_good := lw_g 16 (by decide +kernel) (by decide +kernel)
theorem w_17 : Jvm.Cond.selects "Proratehouse$Bill" ({ cls := "Proratehouse$Bill", name := "amountBack", desc := "()I" } : Jvm.MethodName) ({ cls := "Proratehouse$Bill", name := "amountBack", desc := "()I" } : Jvm.MethodName) ∈ lw_good := lw_g 17 (by decide +kernel) (by decide +kernel)
theorem w_18 : Jvm.Cond.selects "Proratehouse$Clearing" ({ cls := "Proratehouse$Clearing", name := "addToNets", desc := "(LProratehouse$Bill;I)V" } : Jvm.MethodName) ({ cls := "Proratehouse$Clearing", name := "addToNets", desc := "(LProratehouse$Bill;I)V" } : Jvm.MethodName) ∈ lw_good := lw_g 18 (by decide +kernel) (by decide +kernel)
theorem w_19 : Jvm.Cond.selects "Proratehouse" ({ cls := "Proratehouse", name := "moveNets", desc := "()V" } : Jvm.MethodName) ({ cls := "Proratehouse", name := "moveNets", desc := "()V" } : Jvm.MethodName) ∈ lw_good := lw_g 19 (by decide +kernel) (by decide +kernel)
theorem wn_50 : ("Proratehouse", 11, ({ cls := "Proratehouse$Tariff", name := "<init>", desc := "()V" } : Jvm.MethodName), "Proratehouse") ∈ lw_nest := List.mem_of_getElem? (i := 0) (by decide +kernel)
theorem wn_56 : ("Proratehouse$Tariff", 11, ({ cls := "Proratehouse$Pairs", name := "<init>", desc := "()V" } : Jvm.MethodName), "Proratehouse") ∈ lw_nest := List.mem_of_getElem? (i := 1) (by decide +kernel)
theorem wn_101 : ("Proratehouse$Proration", 11, ({ cls := "Proratehouse$Pairs", name := "<init>", desc := "()V" } : Jvm.MethodName), "Proratehouse") ∈ lw_nest := List.mem_of_getElem? (i := 2) (by decide +kernel)
theorem wn_119 : ("Proratehouse$Journey", 17, ({ cls := "Proratehouse$Leg", name := "<init>", desc := "()V" } : Jvm.MethodName), "Proratehouse") ∈ lw_nest := List.mem_of_getElem? (i := 3) (by decide +kernel)
theorem wn_152 : ("Proratehouse", 32, ({ cls := "Proratehouse$Ways", name := "<init>", desc := "()V" } : Jvm.MethodName), "Proratehouse") ∈ lw_nest := List.mem_of_getElem? (i := 4) (by decide +kernel)
theorem wn_176 : ("Proratehouse", 39, ({ cls := "Proratehouse$Clearing", name := "<init>", desc := "()V" } : Jvm.MethodName), "Proratehouse") ∈ lw_nest := List.mem_of_getElem? (i := 5) (by decide +kernel)
theorem wn_350 : ("Proratehouse$Pairs", 15, ({ cls := "Proratehouse", name := "isPlace", desc := "(I)Z" } : Jvm.MethodName), "Proratehouse") ∈ lw_nest := List.mem_of_getElem? (i := 6) (by decide +kernel)
theorem wn_531 : ("Proratehouse$Tariff", 38, ({ cls := "Proratehouse", name := "isPlace", desc := "(I)Z" } : Jvm.MethodName), "Proratehouse") ∈ lw_nest := List.mem_of_getElem? (i := 7) (by decide +kernel)
theorem wn_557 : ("Proratehouse$Proration", 26, ({ cls := "Proratehouse", name := "isCarrier", desc := "(I)Z" } : Jvm.MethodName), "Proratehouse") ∈ lw_nest := List.mem_of_getElem? (i := 8) (by decide +kernel)
theorem wn_558 : ("Proratehouse$Proration", 30, ({ cls := "Proratehouse", name := "isPlace", desc := "(I)Z" } : Jvm.MethodName), "Proratehouse") ∈ lw_nest := List.mem_of_getElem? (i := 9) (by decide +kernel)
theorem wn_669 : ("Proratehouse$Ways", 41, ({ cls := "Proratehouse", name := "isWithin", desc := "(III)Z" } : Jvm.MethodName), "Proratehouse") ∈ lw_nest := List.mem_of_getElem? (i := 10) (by decide +kernel)
theorem wn_697 : ("Proratehouse$Journey", 38, ({ cls := "Proratehouse", name := "isWithin", desc := "(III)Z" } : Jvm.MethodName), "Proratehouse") ∈ lw_nest := List.mem_of_getElem? (i := 11) (by decide +kernel)
theorem wn_967 : ("Proratehouse$Clearing", 28, ({ cls := "Proratehouse", name := "isCarrier", desc := "(I)Z" } : Jvm.MethodName), "Proratehouse") ∈ lw_nest := List.mem_of_getElem? (i := 12) (by decide +kernel)
theorem ws_296 : ("Proratehouse", 63, "no such place") ∈ lw_str := List.mem_of_getElem? (i := 0) (by decide +kernel)
theorem ws_335 : ("Proratehouse", 74, "the same place twice, or miles out of range") ∈ lw_str := List.mem_of_getElem? (i := 1) (by decide +kernel)
theorem ws_366 : ("Proratehouse", 201, "no such carrier") ∈ lw_str := List.mem_of_getElem? (i := 2) (by decide +kernel)
theorem ws_382 : ("Proratehouse", 351, "what is out of range") ∈ lw_str := List.mem_of_getElem? (i := 3) (by decide +kernel)
theorem ws_428 : ("Proratehouse", 278, "no such ticket") ∈ lw_str := List.mem_of_getElem? (i := 4) (by decide +kernel)
theorem ws_437 : ("Proratehouse", 233, "no such ticket or coupon") ∈ lw_str := List.mem_of_getElem? (i := 5) (by decide +kernel)
theorem ws_446 : ("Proratehouse", 316, "no such bill") ∈ lw_str := List.mem_of_getElem? (i := 6) (by decide +kernel)
theorem ws_467 : ("Proratehouse", 88, "the same place twice, or out of range") ∈ lw_str := List.mem_of_getElem? (i := 7) (by decide +kernel)
theorem ws_477 : ("Proratehouse", 96, "no more fares can be filed") ∈ lw_str := List.mem_of_getElem? (i := 8) (by decide +kernel)
theorem ws_526 : ("Proratehouse", 125, "tax out of range") ∈ lw_str := List.mem_of_getElem? (i := 9) (by decide +kernel)
theorem ws_539 : ("Proratehouse", 131, "the same place twice, or weight out of range") ∈ lw_str := List.mem_of_getElem? (i := 10) (by decide +kernel)
theorem ws_547 : ("Proratehouse", 139, "no such carrier or place") ∈ lw_str := List.mem_of_getElem? (i := 11) (by decide +kernel)
theorem ws_548 : ("Proratehouse", 141, "the same place twice, or cents out of range") ∈ lw_str := List.mem_of_getElem? (i := 12) (by decide +kernel)
theorem ws_566 : ("Proratehouse", 120, "unit out of range") ∈ lw_str := List.mem_of_getElem? (i := 13) (by decide +kernel)
theorem ws_574 : ("Proratehouse", 147, "hundredths out of range") ∈ lw_str := List.mem_of_getElem? (i := 14) (by decide +kernel)
theorem ws_588 : ("Proratehouse", 152, "no such place or carrier") ∈ lw_str := List.mem_of_getElem? (i := 15) (by decide +kernel)
theorem ws_589 : ("Proratehouse", 157, "the same place twice, or day out of range") ∈ lw_str := List.mem_of_getElem? (i := 16) (by decide +kernel)
theorem ws_599 : ("Proratehouse", 167, "the journey does not go on by this leg") ∈ lw_str := List.mem_of_getElem? (i := 17) (by decide +kernel)
theorem ws_698 : ("Proratehouse", 179, "no such point") ∈ lw_str := List.mem_of_getElem? (i := 18) (by decide +kernel)
theorem ws_699 : ("Proratehouse", 181, "a part ends at a later point") ∈ lw_str := List.mem_of_getElem? (i := 19) (by decide +kernel)
theorem ws_716 : ("Proratehouse", 207, "no ticket can be issued for the journey") ∈ lw_str := List.mem_of_getElem? (i := 20) (by decide +kernel)
theorem ws_866 : ("Proratehouse", 283, "the ticket has no OPEN coupon") ∈ lw_str := List.mem_of_getElem? (i := 21) (by decide +kernel)
theorem ws_887 : ("Proratehouse", 296, "the ticket can't be reissued for the journey") ∈ lw_str := List.mem_of_getElem? (i := 22) (by decide +kernel)
theorem ws_898 : ("Proratehouse", 274, "no such ticket, coupon or carrier") ∈ lw_str := List.mem_of_getElem? (i := 23) (by decide +kernel)
theorem ws_899 : ("Proratehouse", 276, "the coupon is not OPEN, or is by that carrier") ∈ lw_str := List.mem_of_getElem? (i := 24) (by decide +kernel)
theorem ws_907 : ("Proratehouse", 243, "the coupon is not OPEN, or its day is to come") ∈ lw_str := List.mem_of_getElem? (i := 25) (by decide +kernel)
theorem ws_1032 : ("Proratehouse", 327, "the bill is not PAID, or by an earlier clearing") ∈ lw_str := List.mem_of_getElem? (i := 26) (by decide +kernel)
theorem ws_1040 : ("Proratehouse", 332, "the bill is not RETURNED") ∈ lw_str := List.mem_of_getElem? (i := 27) (by decide +kernel)
theorem ws_1048 : ("Proratehouse", 298, "days out of range") ∈ lw_str := List.mem_of_getElem? (i := 28) (by decide +kernel)
theorem ws_1049 : ("Proratehouse", 300, "there is no such day") ∈ lw_str := List.mem_of_getElem? (i := 29) (by decide +kernel)
theorem ko_X0 : KO 0 RX0 TX0 := ⟨rfl, lw_gs [931, 933, 935, 937, 939, 941] (by decide +kernel) (by decide +kernel), tyX0_ok, nmX0, by decide⟩
theorem kd_X0 : KD 0 := by unfold KD; decide +kernel
theorem ko_X1 : KO 1 RX1 TX1 := ⟨rfl, lw_gs [190, 192, 194, 196, 198] (by decide +kernel) (by decide +kernel), tyX1_ok, nmX1, by decide⟩
theorem kd_X1 : KD 1 := by unfold KD; decide +kernel
theorem ko_X2 : KO 2 RX2 TX2 := ⟨rfl, lw_gs [792, 794, 796, 798, 800, 802, 804, 806, 808] (by decide +kernel) (by decide +kernel), tyX2_ok, nmX2, by decide⟩
theorem kd_X2 : KD 2 := by unfold KD; decide +kernel
theorem ko_X3 : KO 3 RX3 TX3 := ⟨rfl, lw_gs [499, 501, 503, 505, 507, 509, 511] (by decide +kernel) (by decide +kernel), tyX3_ok, nmX3, by decide⟩
theorem kd_X3 : KD 3 := by unfold KD; decide +kernel
theorem ko_X4 : KO 4 RX4 TX4 := ⟨rfl, lw_gs [145, 147] (by decide +kernel) (by decide +kernel), tyX4_ok, nmX4, by decide⟩
theorem kd_X4 : KD 4 := by unfold KD; decide +kernel
theorem ko_X5 : KO 5 RX5 TX5 := ⟨rfl, lw_gs [132, 134, 136, 138] (by decide +kernel) (by decide +kernel), tyX5_ok, nmX5, by decide⟩
theorem kd_X5 : KD 5 := by unfold KD; decide +kernel
theorem ko_X6 : KO 6 RX6 TX6 := ⟨rfl, lw_gs [61] (by decide +kernel) (by decide +kernel), tyX6_ok, nmX6, by decide⟩
theorem kd_X6 : KD 6 := by unfold KD; decide +kernel
theorem ko_X7 : KO 7 RX7 TX7 := ⟨rfl, lw_gs [105, 107] (by decide +kernel) (by decide +kernel), tyX7_ok, nmX7, by decide⟩
theorem kd_X7 : KD 7 := by unfold KD; decide +kernel
theorem ko_X8 : KO 8 RX8 TX8 := ⟨rfl, lw_gs [79, 81, 83, 85, 87, 89, 91] (by decide +kernel) (by decide +kernel), tyX8_ok, nmX8, by decide⟩
theorem kd_X8 : KD 8 := by unfold KD; decide +kernel
theorem ko_X9 : KO 9 RX9 TX9 := ⟨rfl, lw_gs [741, 743, 745, 747, 749, 751, 753, 755] (by decide +kernel) (by decide +kernel), tyX9_ok, nmX9, by decide⟩
theorem kd_X9 : KD 9 := by unfold KD; decide +kernel
theorem ko_X10 : KO 10 RX10 TX10 := ⟨rfl, lw_gs [163, 165, 167, 169, 171] (by decide +kernel) (by decide +kernel), tyX10_ok, nmX10, by decide⟩
theorem kd_X10 : KD 10 := by unfold KD; decide +kernel
theorem ko_X11 : KO 11 RX11 TX11 := ⟨rfl, lw_gs [215, 217, 219, 221, 223, 225, 227, 229, 231, 233, 235] (by decide +kernel) (by decide +kernel), tyX11_ok, nmX11, by decide⟩
theorem kd_X11 : KD 11 := by unfold KD; decide +kernel
def mX0_init : MI := (yX0_init, cX0_init, 4, none, [], { frames := 1, cells := 0, slots := 0, locals := 24 })
theorem mw_X0_init : MW mX0_init := ⟨w_915, w_39⟩
theorem ar_X0_init : Ar mX0_init.1 3 := ⟨⟨by decide +kernel, by decide +kernel⟩, by decide +kernel⟩
def mX0_isOf : MI := (yX0_isOf, cX0_isOf, 2, (Option.some Jvm.ClassFile.FieldType.boolean), [], { frames := 1, cells := 0, slots := 0, locals := 24 })
theorem mw_X0_isOf : MW mX0_isOf := ⟨w_1015, w_39⟩
theorem ar_X0_isOf : Ar mX0_isOf.1 1 := ⟨⟨by decide +kernel, by decide +kernel⟩, by decide +kernel⟩
def mX0_isToBeSettled : MI := (yX0_isToBeSettled, cX0_isToBeSettled, 1, (Option.some Jvm.ClassFile.FieldType.boolean), [], { frames := 1, cells := 0, slots := 0, locals := 24 })
theorem mw_X0_isToBeSettled : MW mX0_isToBeSettled := ⟨w_962, w_39⟩
theorem ar_X0_isToBeSettled : Ar mX0_isToBeSettled.1 0 := ⟨⟨by decide +kernel, by decide +kernel⟩, by decide +kernel⟩
def mX0_isAsLeftBy : MI := (yX0_isAsLeftBy, cX0_isAsLeftBy, 2, (Option.some Jvm.ClassFile.FieldType.boolean), [], { frames := 2, cells := 0, slots := 0, locals := 44 })
theorem mw_X0_isAsLeftBy : MW mX0_isAsLeftBy := ⟨w_1019, w_39⟩
theorem ar_X0_isAsLeftBy : Ar mX0_isAsLeftBy.1 1 := ⟨⟨by decide +kernel, by decide +kernel⟩, by decide +kernel⟩
def mX0_amountBack : MI := (yX0_amountBack, cX0_amountBack, 1, (Option.some Jvm.ClassFile.FieldType.int), [], { frames := 1, cells := 0, slots := 0, locals := 24 })
theorem mw_X0_amountBack : MW mX0_amountBack := ⟨w_975, w_39⟩
theorem ar_X0_amountBack : Ar mX0_amountBack.1 0 := ⟨⟨by decide +kernel, by decide +kernel⟩, by decide +kernel⟩
def mX0_settle : MI := (yX0_settle, cX0_settle, 2, (Option.some Jvm.ClassFile.FieldType.int), [], { frames := 2, cells := 0, slots := 0, locals := 44 })
theorem mw_X0_settle : MW mX0_settle := ⟨w_971, w_39⟩
theorem ar_X0_settle : Ar mX0_settle.1 1 := ⟨⟨by decide +kernel, by decide +kernel⟩, by decide +kernel⟩
def mX0_undo : MI := (yX0_undo, cX0_undo, 1, (Option.some Jvm.ClassFile.FieldType.int), [], { frames := 2, cells := 0, slots := 0, locals := 44 })
theorem mw_X0_undo : MW mX0_undo := ⟨w_1024, w_39⟩
theorem ar_X0_undo : Ar mX0_undo.1 0 := ⟨⟨by decide +kernel, by decide +kernel⟩, by decide +kernel⟩
def mX0_gotByPayee : MI := (yX0_gotByPayee, cX0_gotByPayee, 1, (Option.some Jvm.ClassFile.FieldType.int), [], { frames := 1, cells := 0, slots := 0, locals := 24 })
theorem mw_X0_gotByPayee : MW mX0_gotByPayee := ⟨w_401, w_39⟩
theorem ar_X0_gotByPayee : Ar mX0_gotByPayee.1 0 := ⟨⟨by decide +kernel, by decide +kernel⟩, by decide +kernel⟩
def mX1_init : MI := (yX1_init, cX1_init, 1, none, [], { frames := 1, cells := 2, slots := 245, locals := 24 })
theorem mw_X1_init : MW mX1_init := ⟨w_178, w_28⟩
theorem ar_X1_init : Ar mX1_init.1 0 := ⟨⟨by decide +kernel, by decide +kernel⟩, by decide +kernel⟩
def mX1_addBill : MI := (yX1_addBill, cX1_addBill, 4, (Option.some Jvm.ClassFile.FieldType.int), [], { frames := 2, cells := 1, slots := 6, locals := 47 })
theorem mw_X1_addBill : MW mX1_addBill := ⟨w_911, w_28⟩
theorem ar_X1_addBill : Ar mX1_addBill.1 3 := ⟨⟨by decide +kernel, by decide +kernel⟩, by decide +kernel⟩
def mX1_billAt : MI := (yX1_billAt, cX1_billAt, 2, (Option.some (Jvm.ClassFile.FieldType.object "Proratehouse$Bill")), [], { frames := 1, cells := 0, slots := 0, locals := 24 })
theorem mw_X1_billAt : MW mX1_billAt := ⟨w_397, w_28⟩
theorem ar_X1_billAt : Ar mX1_billAt.1 1 := ⟨⟨by decide +kernel, by decide +kernel⟩, by decide +kernel⟩
def mX11_isCarrier : MI := (yX11_isCarrier, cX11_isCarrier, 1, (Option.some Jvm.ClassFile.FieldType.boolean), [], { frames := 1, cells := 0, slots := 0, locals := 24 })
theorem mw_X11_isCarrier : MW mX11_isCarrier := ⟨w_365, w_21⟩
theorem ar_X11_isCarrier : Ar mX11_isCarrier.1 1 := ⟨⟨by decide +kernel, by decide +kernel⟩, by decide +kernel⟩
def mX1_isInDefault : MI := (yX1_isInDefault, cX1_isInDefault, 2, (Option.some Jvm.ClassFile.FieldType.boolean), [], { frames := 2, cells := 0, slots := 0, locals := 44 })
theorem mw_X1_isInDefault : MW mX1_isInDefault := ⟨w_966, w_28⟩
theorem ar_X1_isInDefault : Ar mX1_isInDefault.1 1 := ⟨⟨by decide +kernel, by decide +kernel⟩, by decide +kernel⟩
def mX1_putDefault : MI := (yX1_putDefault, cX1_putDefault, 3, none, [], { frames := 2, cells := 0, slots := 0, locals := 44 })
theorem mw_X1_putDefault : MW mX1_putDefault := ⟨w_1007, w_28⟩
theorem ar_X1_putDefault : Ar mX1_putDefault.1 2 := ⟨⟨by decide +kernel, by decide +kernel⟩, by decide +kernel⟩
def mX1_forgetNets : MI := (yX1_forgetNets, cX1_forgetNets, 2, none, [], { frames := 1, cells := 0, slots := 0, locals := 24 })
theorem mw_X1_forgetNets : MW mX1_forgetNets := ⟨w_958, w_28⟩
theorem ar_X1_forgetNets : Ar mX1_forgetNets.1 0 := ⟨⟨by decide +kernel, by decide +kernel⟩, by decide +kernel⟩
def mX1_addToNets : MI := (yX1_addToNets, cX1_addToNets, 3, none, [], { frames := 2, cells := 0, slots := 0, locals := 44 })
theorem mw_X1_addToNets : MW mX1_addToNets := ⟨w_979, w_28⟩
theorem ar_X1_addToNets : Ar mX1_addToNets.1 2 := ⟨⟨by decide +kernel, by decide +kernel⟩, by decide +kernel⟩
def mX1_settle : MI := (yX1_settle, cX1_settle, 3, none, [], { frames := 3, cells := 0, slots := 0, locals := 66 })
theorem mw_X1_settle : MW mX1_settle := ⟨w_954, w_28⟩
theorem ar_X1_settle : Ar mX1_settle.1 0 := ⟨⟨by decide +kernel, by decide +kernel⟩, by decide +kernel⟩
def mX1_undo : MI := (yX1_undo, cX1_undo, 5, (Option.some Jvm.ClassFile.FieldType.int), [], { frames := 3, cells := 0, slots := 0, locals := 66 })
theorem mw_X1_undo : MW mX1_undo := ⟨w_1011, w_28⟩
theorem ar_X1_undo : Ar mX1_undo.1 1 := ⟨⟨by decide +kernel, by decide +kernel⟩, by decide +kernel⟩
def mX1_netOf : MI := (yX1_netOf, cX1_netOf, 2, (Option.some Jvm.ClassFile.FieldType.long), [], { frames := 2, cells := 0, slots := 0, locals := 44 })
theorem mw_X1_netOf : MW mX1_netOf := ⟨w_987, w_28⟩
theorem ar_X1_netOf : Ar mX1_netOf.1 1 := ⟨⟨by decide +kernel, by decide +kernel⟩, by decide +kernel⟩
def mX1_sumOfNetsAboveZero : MI := (yX1_sumOfNetsAboveZero, cX1_sumOfNetsAboveZero, 4, (Option.some Jvm.ClassFile.FieldType.long), [], { frames := 3, cells := 0, slots := 0, locals := 65 })
theorem mw_X1_sumOfNetsAboveZero : MW mX1_sumOfNetsAboveZero := ⟨w_991, w_28⟩
theorem ar_X1_sumOfNetsAboveZero : Ar mX1_sumOfNetsAboveZero.1 0 := ⟨⟨by decide +kernel, by decide +kernel⟩, by decide +kernel⟩
def mX1_gotBy : MI := (yX1_gotBy, cX1_gotBy, 6, (Option.some Jvm.ClassFile.FieldType.long), [], { frames := 2, cells := 0, slots := 0, locals := 45 })
theorem mw_X1_gotBy : MW mX1_gotBy := ⟨w_393, w_28⟩
theorem ar_X1_gotBy : Ar mX1_gotBy.1 1 := ⟨⟨by decide +kernel, by decide +kernel⟩, by decide +kernel⟩
def mX2_init : MI := (yX2_init, cX2_init, 3, none, [], { frames := 1, cells := 0, slots := 0, locals := 24 })
theorem mw_X2_init : MW mX2_init := ⟨w_768, w_38⟩
theorem ar_X2_init : Ar mX2_init.1 2 := ⟨⟨by decide +kernel, by decide +kernel⟩, by decide +kernel⟩
def mX3_init : MI := (yX3_init, cX3_init, 7, none, [], { frames := 1, cells := 0, slots := 0, locals := 24 })
theorem mw_X3_init : MW mX3_init := ⟨w_488, w_35⟩
theorem ar_X3_init : Ar mX3_init.1 6 := ⟨⟨by decide +kernel, by decide +kernel⟩, by decide +kernel⟩
def mX3_isFor : MI := (yX3_isFor, cX3_isFor, 4, (Option.some Jvm.ClassFile.FieldType.boolean), [], { frames := 1, cells := 0, slots := 0, locals := 24 })
theorem mw_X3_isFor : MW mX3_isFor := ⟨w_634, w_35⟩
theorem ar_X3_isFor : Ar mX3_isFor.1 3 := ⟨⟨by decide +kernel, by decide +kernel⟩, by decide +kernel⟩
def mX5_init : MI := (yX5_init, cX5_init, 1, none, [], { frames := 1, cells := 0, slots := 0, locals := 24 })
theorem mw_X5_init : MW mX5_init := ⟨w_121, w_26⟩
theorem ar_X5_init : Ar mX5_init.1 0 := ⟨⟨by decide +kernel, by decide +kernel⟩, by decide +kernel⟩
def mX4_init : MI := (yX4_init, cX4_init, 2, none, [], { frames := 2, cells := 9, slots := 40, locals := 44 })
theorem mw_X4_init : MW mX4_init := ⟨w_114, w_25⟩
theorem ar_X4_init : Ar mX4_init.1 0 := ⟨⟨by decide +kernel, by decide +kernel⟩, by decide +kernel⟩
def mX4_legAt : MI := (yX4_legAt, cX4_legAt, 2, (Option.some (Jvm.ClassFile.FieldType.object "Proratehouse$Leg")), [], { frames := 1, cells := 0, slots := 0, locals := 24 })
theorem mw_X4_legAt : MW mX4_legAt := ⟨w_597, w_25⟩
theorem ar_X4_legAt : Ar mX4_legAt.1 1 := ⟨⟨by decide +kernel, by decide +kernel⟩, by decide +kernel⟩
def mX4_goesOn : MI := (yX4_goesOn, cX4_goesOn, 4, (Option.some Jvm.ClassFile.FieldType.boolean), [], { frames := 2, cells := 0, slots := 0, locals := 45 })
theorem mw_X4_goesOn : MW mX4_goesOn := ⟨w_593, w_25⟩
theorem ar_X4_goesOn : Ar mX4_goesOn.1 2 := ⟨⟨by decide +kernel, by decide +kernel⟩, by decide +kernel⟩
def mX4_add : MI := (yX4_add, cX4_add, 6, (Option.some Jvm.ClassFile.FieldType.int), [], { frames := 1, cells := 0, slots := 0, locals := 24 })
theorem mw_X4_add : MW mX4_add := ⟨w_603, w_25⟩
theorem ar_X4_add : Ar mX4_add.1 4 := ⟨⟨by decide +kernel, by decide +kernel⟩, by decide +kernel⟩
def mX4_beginAnew : MI := (yX4_beginAnew, cX4_beginAnew, 2, (Option.some Jvm.ClassFile.FieldType.int), [], { frames := 1, cells := 0, slots := 0, locals := 24 })
theorem mw_X4_beginAnew : MW mX4_beginAnew := ⟨w_839, w_25⟩
theorem ar_X4_beginAnew : Ar mX4_beginAnew.1 0 := ⟨⟨by decide +kernel, by decide +kernel⟩, by decide +kernel⟩
def mX4_hasLegBefore : MI := (yX4_hasLegBefore, cX4_hasLegBefore, 3, (Option.some Jvm.ClassFile.FieldType.boolean), [], { frames := 2, cells := 0, slots := 0, locals := 45 })
theorem mw_X4_hasLegBefore : MW mX4_hasLegBefore := ⟨w_715, w_25⟩
theorem ar_X4_hasLegBefore : Ar mX4_hasLegBefore.1 1 := ⟨⟨by decide +kernel, by decide +kernel⟩, by decide +kernel⟩
def mX11_isWithin : MI := (yX11_isWithin, cX11_isWithin, 3, (Option.some Jvm.ClassFile.FieldType.boolean), [], { frames := 1, cells := 0, slots := 0, locals := 24 })
theorem mw_X11_isWithin : MW mX11_isWithin := ⟨w_325, w_21⟩
theorem ar_X11_isWithin : Ar mX11_isWithin.1 3 := ⟨⟨by decide +kernel, by decide +kernel⟩, by decide +kernel⟩
def mX4_isPoint : MI := (yX4_isPoint, cX4_isPoint, 2, (Option.some Jvm.ClassFile.FieldType.boolean), [], { frames := 2, cells := 0, slots := 0, locals := 46 })
theorem mw_X4_isPoint : MW mX4_isPoint := ⟨w_696, w_25⟩
theorem ar_X4_isPoint : Ar mX4_isPoint.1 1 := ⟨⟨by decide +kernel, by decide +kernel⟩, by decide +kernel⟩
def mX4_placeAt : MI := (yX4_placeAt, cX4_placeAt, 3, (Option.some Jvm.ClassFile.FieldType.int), [], { frames := 2, cells := 0, slots := 0, locals := 45 })
theorem mw_X4_placeAt : MW mX4_placeAt := ⟨w_622, w_25⟩
theorem ar_X4_placeAt : Ar mX4_placeAt.1 1 := ⟨⟨by decide +kernel, by decide +kernel⟩, by decide +kernel⟩
def mX4_isStop : MI := (yX4_isStop, cX4_isStop, 4, (Option.some Jvm.ClassFile.FieldType.boolean), [], { frames := 2, cells := 0, slots := 0, locals := 45 })
theorem mw_X4_isStop : MW mX4_isStop := ⟨w_642, w_25⟩
theorem ar_X4_isStop : Ar mX4_isStop.1 1 := ⟨⟨by decide +kernel, by decide +kernel⟩, by decide +kernel⟩
def mX8_fareAt : MI := (yX8_fareAt, cX8_fareAt, 3, (Option.some (Jvm.ClassFile.FieldType.object "Proratehouse$Fare")), [], { frames := 1, cells := 0, slots := 0, locals := 24 })
theorem mw_X8_fareAt : MW mX8_fareAt := ⟨w_630, w_22⟩
theorem ar_X8_fareAt : Ar mX8_fareAt.1 1 := ⟨⟨by decide +kernel, by decide +kernel⟩, by decide +kernel⟩
def mX8_lowestFare : MI := (yX8_lowestFare, cX8_lowestFare, 7, (Option.some Jvm.ClassFile.FieldType.int), [], { frames := 2, cells := 0, slots := 0, locals := 47 })
theorem mw_X8_lowestFare : MW mX8_lowestFare := ⟨w_626, w_22⟩
theorem ar_X8_lowestFare : Ar mX8_lowestFare.1 3 := ⟨⟨by decide +kernel, by decide +kernel⟩, by decide +kernel⟩
def mX4_stopsBetween : MI := (yX4_stopsBetween, cX4_stopsBetween, 5, (Option.some Jvm.ClassFile.FieldType.int), [], { frames := 3, cells := 0, slots := 0, locals := 68 })
theorem mw_X4_stopsBetween : MW mX4_stopsBetween := ⟨w_638, w_25⟩
theorem ar_X4_stopsBetween : Ar mX4_stopsBetween.1 2 := ⟨⟨by decide +kernel, by decide +kernel⟩, by decide +kernel⟩
def mX11_isPlace : MI := (yX11_isPlace, cX11_isPlace, 1, (Option.some Jvm.ClassFile.FieldType.boolean), [], { frames := 1, cells := 0, slots := 0, locals := 24 })
theorem mw_X11_isPlace : MW mX11_isPlace := ⟨w_254, w_21⟩
theorem ar_X11_isPlace : Ar mX11_isPlace.1 1 := ⟨⟨by decide +kernel, by decide +kernel⟩, by decide +kernel⟩
def mX6_get : MI := (yX6_get, cX6_get, 3, (Option.some Jvm.ClassFile.FieldType.int), [], { frames := 2, cells := 0, slots := 0, locals := 44 })
theorem mw_X6_get : MW mX6_get := ⟨w_349, w_23⟩
theorem ar_X6_get : Ar mX6_get.1 2 := ⟨⟨by decide +kernel, by decide +kernel⟩, by decide +kernel⟩
def mX4_milesOfLegs : MI := (yX4_milesOfLegs, cX4_milesOfLegs, 7, (Option.some Jvm.ClassFile.FieldType.int), [], { frames := 3, cells := 0, slots := 0, locals := 66 })
theorem mw_X4_milesOfLegs : MW mX4_milesOfLegs := ⟨w_646, w_25⟩
theorem ar_X4_milesOfLegs : Ar mX4_milesOfLegs.1 3 := ⟨⟨by decide +kernel, by decide +kernel⟩, by decide +kernel⟩
def mX8_surcharge : MI := (yX8_surcharge, cX8_surcharge, 7, (Option.some Jvm.ClassFile.FieldType.int), [], { frames := 3, cells := 0, slots := 0, locals := 66 })
theorem mw_X8_surcharge : MW mX8_surcharge := ⟨w_651, w_22⟩
theorem ar_X8_surcharge : Ar mX8_surcharge.1 3 := ⟨⟨by decide +kernel, by decide +kernel⟩, by decide +kernel⟩
def mX4_highestBetween : MI := (yX4_highestBetween, cX4_highestBetween, 6, (Option.some Jvm.ClassFile.FieldType.int), [], { frames := 3, cells := 0, slots := 0, locals := 73 })
theorem mw_X4_highestBetween : MW mX4_highestBetween := ⟨w_656, w_25⟩
theorem ar_X4_highestBetween : Ar mX4_highestBetween.1 3 := ⟨⟨by decide +kernel, by decide +kernel⟩, by decide +kernel⟩
def mX8_roundedUp : MI := (yX8_roundedUp, cX8_roundedUp, 7, (Option.some Jvm.ClassFile.FieldType.int), [], { frames := 1, cells := 0, slots := 0, locals := 24 })
theorem mw_X8_roundedUp : MW mX8_roundedUp := ⟨w_663, w_22⟩
theorem ar_X8_roundedUp : Ar mX8_roundedUp.1 2 := ⟨⟨by decide +kernel, by decide +kernel⟩, by decide +kernel⟩
def mX4_priceOfPart : MI := (yX4_priceOfPart, cX4_priceOfPart, 8, (Option.some Jvm.ClassFile.FieldType.int), [], { frames := 4, cells := 0, slots := 0, locals := 98 })
theorem mw_X4_priceOfPart : MW mX4_priceOfPart := ⟨w_618, w_25⟩
theorem ar_X4_priceOfPart : Ar mX4_priceOfPart.1 3 := ⟨⟨by decide +kernel, by decide +kernel⟩, by decide +kernel⟩
def mX6_init : MI := (yX6_init, cX6_init, 1, none, [], { frames := 1, cells := 1, slots := 100, locals := 24 })
theorem mw_X6_init : MW mX6_init := ⟨w_58, w_23⟩
theorem ar_X6_init : Ar mX6_init.1 0 := ⟨⟨by decide +kernel, by decide +kernel⟩, by decide +kernel⟩
def mX6_put : MI := (yX6_put, cX6_put, 5, (Option.some Jvm.ClassFile.FieldType.int), [], { frames := 3, cells := 0, slots := 0, locals := 66 })
theorem mw_X6_put : MW mX6_put := ⟨w_345, w_23⟩
theorem ar_X6_put : Ar mX6_put.1 3 := ⟨⟨by decide +kernel, by decide +kernel⟩, by decide +kernel⟩
def mX7_init : MI := (yX7_init, cX7_init, 2, none, [], { frames := 2, cells := 3, slots := 601, locals := 44 })
theorem mw_X7_init : MW mX7_init := ⟨w_98, w_24⟩
theorem ar_X7_init : Ar mX7_init.1 0 := ⟨⟨by decide +kernel, by decide +kernel⟩, by decide +kernel⟩
def mX7_provisoOf : MI := (yX7_provisoOf, cX7_provisoOf, 4, (Option.some Jvm.ClassFile.FieldType.int), [], { frames := 2, cells := 0, slots := 0, locals := 44 })
theorem mw_X7_provisoOf : MW mX7_provisoOf := ⟨w_556, w_24⟩
theorem ar_X7_provisoOf : Ar mX7_provisoOf.1 3 := ⟨⟨by decide +kernel, by decide +kernel⟩, by decide +kernel⟩
def mX7_putProviso : MI := (yX7_putProviso, cX7_putProviso, 6, (Option.some Jvm.ClassFile.FieldType.int), [], { frames := 3, cells := 0, slots := 0, locals := 67 })
theorem mw_X7_putProviso : MW mX7_putProviso := ⟨w_552, w_24⟩
theorem ar_X7_putProviso : Ar mX7_putProviso.1 4 := ⟨⟨by decide +kernel, by decide +kernel⟩, by decide +kernel⟩
def mX7_weightOf : MI := (yX7_weightOf, cX7_weightOf, 4, (Option.some Jvm.ClassFile.FieldType.int), [], { frames := 3, cells := 0, slots := 0, locals := 66 })
theorem mw_X7_weightOf : MW mX7_weightOf := ⟨w_827, w_24⟩
theorem ar_X7_weightOf : Ar mX7_weightOf.1 2 := ⟨⟨by decide +kernel, by decide +kernel⟩, by decide +kernel⟩
def mX9_couponAt : MI := (yX9_couponAt, cX9_couponAt, 2, (Option.some (Jvm.ClassFile.FieldType.object "Proratehouse$Coupon")), [], { frames := 1, cells := 0, slots := 0, locals := 24 })
theorem mw_X9_couponAt : MW mX9_couponAt := ⟨w_413, w_37⟩
theorem ar_X9_couponAt : Ar mX9_couponAt.1 1 := ⟨⟨by decide +kernel, by decide +kernel⟩, by decide +kernel⟩
def mX7_shareByWeights : MI := (yX7_shareByWeights, cX7_shareByWeights, 10, none, [], { frames := 2, cells := 0, slots := 0, locals := 45 })
theorem mw_X7_shareByWeights : MW mX7_shareByWeights := ⟨w_835, w_24⟩
theorem ar_X7_shareByWeights : Ar mX7_shareByWeights.1 5 := ⟨⟨by decide +kernel, by decide +kernel⟩, by decide +kernel⟩
def mX7_share : MI := (yX7_share, cX7_share, 11, (Option.some Jvm.ClassFile.FieldType.int), [], { frames := 4, cells := 0, slots := 0, locals := 89 })
theorem mw_X7_share : MW mX7_share := ⟨w_822, w_24⟩
theorem ar_X7_share : Ar mX7_share.1 5 := ⟨⟨by decide +kernel, by decide +kernel⟩, by decide +kernel⟩
def mX8_init : MI := (yX8_init, cX8_init, 1, none, [], { frames := 2, cells := 5, slots := 161, locals := 44 })
theorem mw_X8_init : MW mX8_init := ⟨w_52, w_22⟩
theorem ar_X8_init : Ar mX8_init.1 0 := ⟨⟨by decide +kernel, by decide +kernel⟩, by decide +kernel⟩
def mX8_file : MI := (yX8_file, cX8_file, 2, (Option.some Jvm.ClassFile.FieldType.int), [], { frames := 1, cells := 0, slots := 0, locals := 24 })
theorem mw_X8_file : MW mX8_file := ⟨w_517, w_22⟩
theorem ar_X8_file : Ar mX8_file.1 1 := ⟨⟨by decide +kernel, by decide +kernel⟩, by decide +kernel⟩
def mX8_putTaxes : MI := (yX8_putTaxes, cX8_putTaxes, 4, none, [], { frames := 2, cells := 0, slots := 0, locals := 44 })
theorem mw_X8_putTaxes : MW mX8_putTaxes := ⟨w_530, w_22⟩
theorem ar_X8_putTaxes : Ar mX8_putTaxes.1 3 := ⟨⟨by decide +kernel, by decide +kernel⟩, by decide +kernel⟩
def mX8_taxAt : MI := (yX8_taxAt, cX8_taxAt, 3, (Option.some Jvm.ClassFile.FieldType.int), [], { frames := 2, cells := 0, slots := 0, locals := 44 })
theorem mw_X8_taxAt : MW mX8_taxAt := ⟨w_765, w_22⟩
theorem ar_X8_taxAt : Ar mX8_taxAt.1 2 := ⟨⟨by decide +kernel, by decide +kernel⟩, by decide +kernel⟩
def mX9_init : MI := (yX9_init, cX9_init, 4, none, [], { frames := 1, cells := 1, slots := 8, locals := 24 })
theorem mw_X9_init : MW mX9_init := ⟨w_724, w_37⟩
theorem ar_X9_init : Ar mX9_init.1 3 := ⟨⟨by decide +kernel, by decide +kernel⟩, by decide +kernel⟩
def mX9_add : MI := (yX9_add, cX9_add, 2, none, [], { frames := 1, cells := 0, slots := 0, locals := 24 })
theorem mw_X9_add : MW mX9_add := ⟨w_814, w_37⟩
theorem ar_X9_add : Ar mX9_add.1 1 := ⟨⟨by decide +kernel, by decide +kernel⟩, by decide +kernel⟩
def mX9_openAt : MI := (yX9_openAt, cX9_openAt, 3, (Option.some (Jvm.ClassFile.FieldType.object "Proratehouse$Coupon")), [], { frames := 2, cells := 0, slots := 0, locals := 45 })
theorem mw_X9_openAt : MW mX9_openAt := ⟨w_865, w_37⟩
theorem ar_X9_openAt : Ar mX9_openAt.1 1 := ⟨⟨by decide +kernel, by decide +kernel⟩, by decide +kernel⟩
def mX9_hasOpenOnes : MI := (yX9_hasOpenOnes, cX9_hasOpenOnes, 2, (Option.some Jvm.ClassFile.FieldType.boolean), [], { frames := 3, cells := 0, slots := 0, locals := 67 })
theorem mw_X9_hasOpenOnes : MW mX9_hasOpenOnes := ⟨w_861, w_37⟩
theorem ar_X9_hasOpenOnes : Ar mX9_hasOpenOnes.1 0 := ⟨⟨by decide +kernel, by decide +kernel⟩, by decide +kernel⟩
def mX9_openShares : MI := (yX9_openShares, cX9_openShares, 4, (Option.some Jvm.ClassFile.FieldType.int), [], { frames := 3, cells := 0, slots := 0, locals := 67 })
theorem mw_X9_openShares : MW mX9_openShares := ⟨w_870, w_37⟩
theorem ar_X9_openShares : Ar mX9_openShares.1 0 := ⟨⟨by decide +kernel, by decide +kernel⟩, by decide +kernel⟩
def mX9_openTaxes : MI := (yX9_openTaxes, cX9_openTaxes, 4, (Option.some Jvm.ClassFile.FieldType.int), [], { frames := 3, cells := 0, slots := 0, locals := 67 })
theorem mw_X9_openTaxes : MW mX9_openTaxes := ⟨w_875, w_37⟩
theorem ar_X9_openTaxes : Ar mX9_openTaxes.1 0 := ⟨⟨by decide +kernel, by decide +kernel⟩, by decide +kernel⟩
def mX9_flownTaxes : MI := (yX9_flownTaxes, cX9_flownTaxes, 4, (Option.some Jvm.ClassFile.FieldType.int), [], { frames := 2, cells := 0, slots := 0, locals := 45 })
theorem mw_X9_flownTaxes : MW mX9_flownTaxes := ⟨w_409, w_37⟩
theorem ar_X9_flownTaxes : Ar mX9_flownTaxes.1 0 := ⟨⟨by decide +kernel, by decide +kernel⟩, by decide +kernel⟩
def mX9_turnOpenOnes : MI := (yX9_turnOpenOnes, cX9_turnOpenOnes, 5, none, [], { frames := 3, cells := 0, slots := 0, locals := 67 })
theorem mw_X9_turnOpenOnes : MW mX9_turnOpenOnes := ⟨w_879, w_37⟩
theorem ar_X9_turnOpenOnes : Ar mX9_turnOpenOnes.1 2 := ⟨⟨by decide +kernel, by decide +kernel⟩, by decide +kernel⟩
def mX10_init : MI := (yX10_init, cX10_init, 1, none, [], { frames := 1, cells := 3, slots := 99, locals := 24 })
theorem mw_X10_init : MW mX10_init := ⟨w_154, w_27⟩
theorem ar_X10_init : Ar mX10_init.1 0 := ⟨⟨by decide +kernel, by decide +kernel⟩, by decide +kernel⟩
def mX10_goOn : MI := (yX10_goOn, cX10_goOn, 5, none, [], { frames := 2, cells := 0, slots := 0, locals := 46 })
theorem mw_X10_goOn : MW mX10_goOn := ⟨w_668, w_27⟩
theorem ar_X10_goOn : Ar mX10_goOn.1 3 := ⟨⟨by decide +kernel, by decide +kernel⟩, by decide +kernel⟩
def mX10_findLeast : MI := (yX10_findLeast, cX10_findLeast, 5, none, [], { frames := 5, cells := 0, slots := 0, locals := 125 })
theorem mw_X10_findLeast : MW mX10_findLeast := ⟨w_614, w_27⟩
theorem ar_X10_findLeast : Ar mX10_findLeast.1 2 := ⟨⟨by decide +kernel, by decide +kernel⟩, by decide +kernel⟩
def mX10_sumOfSet : MI := (yX10_sumOfSet, cX10_sumOfSet, 8, (Option.some Jvm.ClassFile.FieldType.int), [], { frames := 1, cells := 0, slots := 0, locals := 24 })
theorem mw_X10_sumOfSet : MW mX10_sumOfSet := ⟨w_685, w_27⟩
theorem ar_X10_sumOfSet : Ar mX10_sumOfSet.1 2 := ⟨⟨by decide +kernel, by decide +kernel⟩, by decide +kernel⟩
def mX10_leastOfAllSets : MI := (yX10_leastOfAllSets, cX10_leastOfAllSets, 7, (Option.some Jvm.ClassFile.FieldType.int), [], { frames := 5, cells := 0, slots := 0, locals := 125 })
theorem mw_X10_leastOfAllSets : MW mX10_leastOfAllSets := ⟨w_681, w_27⟩
theorem ar_X10_leastOfAllSets : Ar mX10_leastOfAllSets.1 2 := ⟨⟨by decide +kernel, by decide +kernel⟩, by decide +kernel⟩
def mX11_init : MI := (yX11_init, cX11_init, 1, none, [], { frames := 3, cells := 30, slots := 1212, locals := 65 })
theorem mw_X11_init : MW mX11_init := ⟨w_44, w_21⟩
theorem ar_X11_init : Ar mX11_init.1 0 := ⟨⟨by decide +kernel, by decide +kernel⟩, by decide +kernel⟩
def mX11_miles : MI := (yX11_miles, cX11_miles, 4, (Option.some Jvm.ClassFile.FieldType.int), [], { frames := 6, cells := 1, slots := 6, locals := 92 })
theorem mw_X11_miles : MW mX11_miles := ⟨w_251, w_21⟩
theorem ar_X11_miles : Ar mX11_miles.1 3 := ⟨⟨by decide +kernel, by decide +kernel⟩, by decide +kernel⟩
def mX11_fare : MI := (yX11_fare, cX11_fare, 7, (Option.some Jvm.ClassFile.FieldType.int), [], { frames := 6, cells := 2, slots := 13, locals := 92 })
theorem mw_X11_fare : MW mX11_fare := ⟨w_465, w_21⟩
theorem ar_X11_fare : Ar mX11_fare.1 6 := ⟨⟨by decide +kernel, by decide +kernel⟩, by decide +kernel⟩
def mX11_unit : MI := (yX11_unit, cX11_unit, 3, (Option.some Jvm.ClassFile.FieldType.int), [], { frames := 6, cells := 1, slots := 6, locals := 92 })
theorem mw_X11_unit : MW mX11_unit := ⟨w_565, w_21⟩
theorem ar_X11_unit : Ar mX11_unit.1 1 := ⟨⟨by decide +kernel, by decide +kernel⟩, by decide +kernel⟩
def mX11_tax : MI := (yX11_tax, cX11_tax, 4, none, [], { frames := 6, cells := 1, slots := 6, locals := 92 })
theorem mw_X11_tax : MW mX11_tax := ⟨w_525, w_21⟩
theorem ar_X11_tax : Ar mX11_tax.1 3 := ⟨⟨by decide +kernel, by decide +kernel⟩, by decide +kernel⟩
def mX11_weight : MI := (yX11_weight, cX11_weight, 4, (Option.some Jvm.ClassFile.FieldType.int), [], { frames := 6, cells := 1, slots := 6, locals := 92 })
theorem mw_X11_weight : MW mX11_weight := ⟨w_538, w_21⟩
theorem ar_X11_weight : Ar mX11_weight.1 3 := ⟨⟨by decide +kernel, by decide +kernel⟩, by decide +kernel⟩
def mX11_proviso : MI := (yX11_proviso, cX11_proviso, 5, (Option.some Jvm.ClassFile.FieldType.int), [], { frames := 6, cells := 1, slots := 6, locals := 92 })
theorem mw_X11_proviso : MW mX11_proviso := ⟨w_546, w_21⟩
theorem ar_X11_proviso : Ar mX11_proviso.1 4 := ⟨⟨by decide +kernel, by decide +kernel⟩, by decide +kernel⟩
def mX11_penalty : MI := (yX11_penalty, cX11_penalty, 3, (Option.some Jvm.ClassFile.FieldType.int), [], { frames := 6, cells := 1, slots := 6, locals := 92 })
theorem mw_X11_penalty : MW mX11_penalty := ⟨w_573, w_21⟩
theorem ar_X11_penalty : Ar mX11_penalty.1 1 := ⟨⟨by decide +kernel, by decide +kernel⟩, by decide +kernel⟩
def mX11_leg : MI := (yX11_leg, cX11_leg, 5, (Option.some Jvm.ClassFile.FieldType.int), [], { frames := 6, cells := 1, slots := 6, locals := 92 })
theorem mw_X11_leg : MW mX11_leg := ⟨w_587, w_21⟩
theorem ar_X11_leg : Ar mX11_leg.1 4 := ⟨⟨by decide +kernel, by decide +kernel⟩, by decide +kernel⟩
def mX11_part : MI := (yX11_part, cX11_part, 3, (Option.some Jvm.ClassFile.FieldType.int), [], { frames := 6, cells := 1, slots := 6, locals := 125 })
theorem mw_X11_part : MW mX11_part := ⟨w_692, w_21⟩
theorem ar_X11_part : Ar mX11_part.1 2 := ⟨⟨by decide +kernel, by decide +kernel⟩, by decide +kernel⟩
def mX11_price : MI := (yX11_price, cX11_price, 1, (Option.some Jvm.ClassFile.FieldType.int), [], { frames := 6, cells := 0, slots := 0, locals := 149 })
theorem mw_X11_price : MW mX11_price := ⟨w_610, w_21⟩
theorem ar_X11_price : Ar mX11_price.1 0 := ⟨⟨by decide +kernel, by decide +kernel⟩, by decide +kernel⟩
def mX11_priceAnew : MI := (yX11_priceAnew, cX11_priceAnew, 1, (Option.some Jvm.ClassFile.FieldType.int), [], { frames := 6, cells := 0, slots := 0, locals := 151 })
theorem mw_X11_priceAnew : MW mX11_priceAnew := ⟨w_677, w_21⟩
theorem ar_X11_priceAnew : Ar mX11_priceAnew.1 0 := ⟨⟨by decide +kernel, by decide +kernel⟩, by decide +kernel⟩
def mX11_cuts : MI := (yX11_cuts, cX11_cuts, 1, (Option.some Jvm.ClassFile.FieldType.int), [], { frames := 6, cells := 0, slots := 0, locals := 149 })
theorem mw_X11_cuts : MW mX11_cuts := ⟨w_673, w_21⟩
theorem ar_X11_cuts : Ar mX11_cuts.1 0 := ⟨⟨by decide +kernel, by decide +kernel⟩, by decide +kernel⟩
def mX11_canBeIssued : MI := (yX11_canBeIssued, cX11_canBeIssued, 1, (Option.some Jvm.ClassFile.FieldType.boolean), [], { frames := 3, cells := 0, slots := 0, locals := 67 })
theorem mw_X11_canBeIssued : MW mX11_canBeIssued := ⟨w_711, w_21⟩
theorem ar_X11_canBeIssued : Ar mX11_canBeIssued.1 0 := ⟨⟨by decide +kernel, by decide +kernel⟩, by decide +kernel⟩
def mX11_shareOut : MI := (yX11_shareOut, cX11_shareOut, 5, none, [], { frames := 5, cells := 0, slots := 0, locals := 125 })
theorem mw_X11_shareOut : MW mX11_shareOut := ⟨w_818, w_21⟩
theorem ar_X11_shareOut : Ar mX11_shareOut.1 1 := ⟨⟨by decide +kernel, by decide +kernel⟩, by decide +kernel⟩
def mX11_issued : MI := (yX11_issued, cX11_issued, 5, (Option.some (Jvm.ClassFile.FieldType.object "Proratehouse$Ticket")), [], { frames := 6, cells := 10, slots := 88, locals := 149 })
theorem mw_X11_issued : MW mX11_issued := ⟨w_720, w_21⟩
theorem ar_X11_issued : Ar mX11_issued.1 1 := ⟨⟨by decide +kernel, by decide +kernel⟩, by decide +kernel⟩
def mX11_addCash : MI := (yX11_addCash, cX11_addCash, 4, none, [], { frames := 2, cells := 0, slots := 0, locals := 44 })
theorem mw_X11_addCash : MW mX11_addCash := ⟨w_847, w_21⟩
theorem ar_X11_addCash : Ar mX11_addCash.1 2 := ⟨⟨by decide +kernel, by decide +kernel⟩, by decide +kernel⟩
def mX11_receive : MI := (yX11_receive, cX11_receive, 3, none, [], { frames := 3, cells := 0, slots := 0, locals := 67 })
theorem mw_X11_receive : MW mX11_receive := ⟨w_843, w_21⟩
theorem ar_X11_receive : Ar mX11_receive.1 2 := ⟨⟨by decide +kernel, by decide +kernel⟩, by decide +kernel⟩
def mX11_issue : MI := (yX11_issue, cX11_issue, 3, (Option.some Jvm.ClassFile.FieldType.int), [], { frames := 7, cells := 11, slots := 94, locals := 173 })
theorem mw_X11_issue : MW mX11_issue := ⟨w_707, w_21⟩
theorem ar_X11_issue : Ar mX11_issue.1 1 := ⟨⟨by decide +kernel, by decide +kernel⟩, by decide +kernel⟩
def mX11_ticketAt : MI := (yX11_ticketAt, cX11_ticketAt, 3, (Option.some (Jvm.ClassFile.FieldType.object "Proratehouse$Ticket")), [], { frames := 1, cells := 0, slots := 0, locals := 24 })
theorem mw_X11_ticketAt : MW mX11_ticketAt := ⟨w_405, w_21⟩
theorem ar_X11_ticketAt : Ar mX11_ticketAt.1 1 := ⟨⟨by decide +kernel, by decide +kernel⟩, by decide +kernel⟩
def mX11_fly : MI := (yX11_fly, cX11_fly, 5, (Option.some Jvm.ClassFile.FieldType.int), [], { frames := 6, cells := 2, slots := 12, locals := 92 })
theorem mw_X11_fly : MW mX11_fly := ⟨w_906, w_21⟩
theorem ar_X11_fly : Ar mX11_fly.1 2 := ⟨⟨by decide +kernel, by decide +kernel⟩, by decide +kernel⟩
def mX11_endorse : MI := (yX11_endorse, cX11_endorse, 7, (Option.some Jvm.ClassFile.FieldType.int), [], { frames := 6, cells := 1, slots := 6, locals := 92 })
theorem mw_X11_endorse : MW mX11_endorse := ⟨w_897, w_21⟩
theorem ar_X11_endorse : Ar mX11_endorse.1 3 := ⟨⟨by decide +kernel, by decide +kernel⟩, by decide +kernel⟩
def mX11_refund : MI := (yX11_refund, cX11_refund, 6, (Option.some Jvm.ClassFile.FieldType.int), [], { frames := 6, cells := 1, slots := 6, locals := 92 })
theorem mw_X11_refund : MW mX11_refund := ⟨w_857, w_21⟩
theorem ar_X11_refund : Ar mX11_refund.1 1 := ⟨⟨by decide +kernel, by decide +kernel⟩, by decide +kernel⟩
def mX11_reissue : MI := (yX11_reissue, cX11_reissue, 6, (Option.some Jvm.ClassFile.FieldType.int), [], { frames := 7, cells := 11, slots := 94, locals := 173 })
theorem mw_X11_reissue : MW mX11_reissue := ⟨w_886, w_21⟩
theorem ar_X11_reissue : Ar mX11_reissue.1 1 := ⟨⟨by decide +kernel, by decide +kernel⟩, by decide +kernel⟩
def mX11_pass : MI := (yX11_pass, cX11_pass, 2, (Option.some Jvm.ClassFile.FieldType.int), [], { frames := 6, cells := 1, slots := 6, locals := 92 })
theorem mw_X11_pass : MW mX11_pass := ⟨w_1047, w_21⟩
theorem ar_X11_pass : Ar mX11_pass.1 1 := ⟨⟨by decide +kernel, by decide +kernel⟩, by decide +kernel⟩
def mX11_moveNets : MI := (yX11_moveNets, cX11_moveNets, 2, none, [], { frames := 3, cells := 0, slots := 0, locals := 67 })
theorem mw_X11_moveNets : MW mX11_moveNets := ⟨w_983, w_21⟩
theorem ar_X11_moveNets : Ar mX11_moveNets.1 0 := ⟨⟨by decide +kernel, by decide +kernel⟩, by decide +kernel⟩
def mX11_clear : MI := (yX11_clear, cX11_clear, 1, (Option.some Jvm.ClassFile.FieldType.long), [], { frames := 4, cells := 0, slots := 0, locals := 88 })
theorem mw_X11_clear : MW mX11_clear := ⟨w_950, w_21⟩
theorem ar_X11_clear : Ar mX11_clear.1 0 := ⟨⟨by decide +kernel, by decide +kernel⟩, by decide +kernel⟩
def mX11_reject : MI := (yX11_reject, cX11_reject, 3, (Option.some Jvm.ClassFile.FieldType.int), [], { frames := 6, cells := 1, slots := 6, locals := 92 })
theorem mw_X11_reject : MW mX11_reject := ⟨w_1031, w_21⟩
theorem ar_X11_reject : Ar mX11_reject.1 1 := ⟨⟨by decide +kernel, by decide +kernel⟩, by decide +kernel⟩
def mX11_rebill : MI := (yX11_rebill, cX11_rebill, 3, none, [], { frames := 6, cells := 1, slots := 6, locals := 92 })
theorem mw_X11_rebill : MW mX11_rebill := ⟨w_1039, w_21⟩
theorem ar_X11_rebill : Ar mX11_rebill.1 1 := ⟨⟨by decide +kernel, by decide +kernel⟩, by decide +kernel⟩
def mX11_fails : MI := (yX11_fails, cX11_fails, 5, (Option.some Jvm.ClassFile.FieldType.int), [], { frames := 6, cells := 1, slots := 6, locals := 92 })
theorem mw_X11_fails : MW mX11_fails := ⟨w_1002, w_21⟩
theorem ar_X11_fails : Ar mX11_fails.1 2 := ⟨⟨by decide +kernel, by decide +kernel⟩, by decide +kernel⟩
def mX11_ofTicket : MI := (yX11_ofTicket, cX11_ofTicket, 4, (Option.some Jvm.ClassFile.FieldType.int), [], { frames := 6, cells := 1, slots := 6, locals := 92 })
theorem mw_X11_ofTicket : MW mX11_ofTicket := ⟨w_427, w_21⟩
theorem ar_X11_ofTicket : Ar mX11_ofTicket.1 2 := ⟨⟨by decide +kernel, by decide +kernel⟩, by decide +kernel⟩
def mX11_ofCoupon : MI := (yX11_ofCoupon, cX11_ofCoupon, 6, (Option.some Jvm.ClassFile.FieldType.int), [], { frames := 6, cells := 1, slots := 6, locals := 92 })
theorem mw_X11_ofCoupon : MW mX11_ofCoupon := ⟨w_435, w_21⟩
theorem ar_X11_ofCoupon : Ar mX11_ofCoupon.1 3 := ⟨⟨by decide +kernel, by decide +kernel⟩, by decide +kernel⟩
def mX11_ofBill : MI := (yX11_ofBill, cX11_ofBill, 4, (Option.some Jvm.ClassFile.FieldType.int), [], { frames := 6, cells := 1, slots := 6, locals := 92 })
theorem mw_X11_ofBill : MW mX11_ofBill := ⟨w_444, w_21⟩
theorem ar_X11_ofBill : Ar mX11_ofBill.1 2 := ⟨⟨by decide +kernel, by decide +kernel⟩, by decide +kernel⟩
def mX11_cash : MI := (yX11_cash, cX11_cash, 2, (Option.some Jvm.ClassFile.FieldType.long), [], { frames := 6, cells := 1, slots := 6, locals := 92 })
theorem mw_X11_cash : MW mX11_cash := ⟨w_362, w_21⟩
theorem ar_X11_cash : Ar mX11_cash.1 1 := ⟨⟨by decide +kernel, by decide +kernel⟩, by decide +kernel⟩
def mX11_cashAnew : MI := (yX11_cashAnew, cX11_cashAnew, 6, (Option.some Jvm.ClassFile.FieldType.long), [], { frames := 6, cells := 1, slots := 6, locals := 92 })
theorem mw_X11_cashAnew : MW mX11_cashAnew := ⟨w_389, w_21⟩
theorem ar_X11_cashAnew : Ar mX11_cashAnew.1 1 := ⟨⟨by decide +kernel, by decide +kernel⟩, by decide +kernel⟩
def mX11_state : MI := (yX11_state, cX11_state, 2, (Option.some Jvm.ClassFile.FieldType.long), [], { frames := 6, cells := 1, slots := 6, locals := 92 })
theorem mw_X11_state : MW mX11_state := ⟨w_374, w_21⟩
theorem ar_X11_state : Ar mX11_state.1 1 := ⟨⟨by decide +kernel, by decide +kernel⟩, by decide +kernel⟩
def mX11_paid : MI := (yX11_paid, cX11_paid, 1, (Option.some Jvm.ClassFile.FieldType.long), [], { frames := 1, cells := 0, slots := 0, locals := 24 })
theorem mw_X11_paid : MW mX11_paid := ⟨w_417, w_21⟩
theorem ar_X11_paid : Ar mX11_paid.1 0 := ⟨⟨by decide +kernel, by decide +kernel⟩, by decide +kernel⟩
def mX11_of : MI := (yX11_of, cX11_of, 2, (Option.some Jvm.ClassFile.FieldType.int), [], { frames := 6, cells := 1, slots := 6, locals := 92 })
theorem mw_X11_of : MW mX11_of := ⟨w_381, w_21⟩
theorem ar_X11_of : Ar mX11_of.1 1 := ⟨⟨by decide +kernel, by decide +kernel⟩, by decide +kernel⟩
def mL_at : MI := (yL_at, cL_at, 2, (Option.some Jvm.ClassFile.FieldType.int), [], { frames := 1, cells := 0, slots := 0, locals := 24 })
theorem mw_L_at : MW mL_at := ⟨w_240, w_20⟩
theorem ar_L_at : Ar mL_at.1 2 := ⟨⟨by decide +kernel, by decide +kernel⟩, by decide +kernel⟩
def mL_low : MI := (yL_low, cL_low, 2, (Option.some Jvm.ClassFile.FieldType.int), [], { frames := 1, cells := 0, slots := 0, locals := 24 })
theorem mw_L_low : MW mL_low := ⟨w_455, w_20⟩
theorem ar_L_low : Ar mL_low.1 2 := ⟨⟨by decide +kernel, by decide +kernel⟩, by decide +kernel⟩
def mL_miles : MI := (yL_miles, cL_miles, 5, (Option.some Jvm.ClassFile.FieldType.int), [(0, 7, 8, 16), (0, 7, 13, 19)], { frames := 7, cells := 1, slots := 6, locals := 115 })
theorem mw_L_miles : MWh mL_miles := ⟨w_245, w_20⟩
theorem ar_L_miles : Ar mL_miles.1 4 := ⟨⟨by decide +kernel, by decide +kernel⟩, by decide +kernel⟩
def mL_fare : MI := (yL_fare, cL_fare, 8, (Option.some Jvm.ClassFile.FieldType.int), [(0, 13, 14, 16), (0, 13, 19, 19), (0, 13, 24, 26)], { frames := 7, cells := 2, slots := 13, locals := 118 })
theorem mw_L_fare : MWh mL_fare := ⟨w_460, w_20⟩
theorem ar_L_fare : Ar mL_fare.1 7 := ⟨⟨by decide +kernel, by decide +kernel⟩, by decide +kernel⟩
def mL_unit : MI := (yL_unit, cL_unit, 3, (Option.some Jvm.ClassFile.FieldType.int), [(0, 5, 6, 19)], { frames := 7, cells := 1, slots := 6, locals := 114 })
theorem mw_L_unit : MWh mL_unit := ⟨w_561, w_20⟩
theorem ar_L_unit : Ar mL_unit.1 2 := ⟨⟨by decide +kernel, by decide +kernel⟩, by decide +kernel⟩
def mL_tax : MI := (yL_tax, cL_tax, 5, (Option.some Jvm.ClassFile.FieldType.int), [(0, 8, 9, 16), (0, 8, 14, 19)], { frames := 7, cells := 1, slots := 6, locals := 115 })
theorem mw_L_tax : MWh mL_tax := ⟨w_521, w_20⟩
theorem ar_L_tax : Ar mL_tax.1 4 := ⟨⟨by decide +kernel, by decide +kernel⟩, by decide +kernel⟩
def mL_weight : MI := (yL_weight, cL_weight, 5, (Option.some Jvm.ClassFile.FieldType.int), [(0, 7, 8, 16), (0, 7, 13, 19)], { frames := 7, cells := 1, slots := 6, locals := 115 })
theorem mw_L_weight : MWh mL_weight := ⟨w_534, w_20⟩
theorem ar_L_weight : Ar mL_weight.1 4 := ⟨⟨by decide +kernel, by decide +kernel⟩, by decide +kernel⟩
def mL_proviso : MI := (yL_proviso, cL_proviso, 6, (Option.some Jvm.ClassFile.FieldType.int), [(0, 9, 10, 16), (0, 9, 15, 19)], { frames := 7, cells := 1, slots := 6, locals := 116 })
theorem mw_L_proviso : MWh mL_proviso := ⟨w_542, w_20⟩
theorem ar_L_proviso : Ar mL_proviso.1 5 := ⟨⟨by decide +kernel, by decide +kernel⟩, by decide +kernel⟩
def mL_penalty : MI := (yL_penalty, cL_penalty, 3, (Option.some Jvm.ClassFile.FieldType.int), [(0, 5, 6, 19)], { frames := 7, cells := 1, slots := 6, locals := 114 })
theorem mw_L_penalty : MWh mL_penalty := ⟨w_569, w_20⟩
theorem ar_L_penalty : Ar mL_penalty.1 2 := ⟨⟨by decide +kernel, by decide +kernel⟩, by decide +kernel⟩
def mL_leg : MI := (yL_leg, cL_leg, 6, (Option.some Jvm.ClassFile.FieldType.int), [(0, 9, 10, 16), (0, 9, 15, 19), (0, 9, 20, 26)], { frames := 7, cells := 1, slots := 6, locals := 116 })
theorem mw_L_leg : MWh mL_leg := ⟨w_583, w_20⟩
theorem ar_L_leg : Ar mL_leg.1 5 := ⟨⟨by decide +kernel, by decide +kernel⟩, by decide +kernel⟩
def mL_part : MI := (yL_part, cL_part, 4, (Option.some Jvm.ClassFile.FieldType.int), [(0, 6, 7, 16), (0, 6, 11, 19)], { frames := 7, cells := 1, slots := 6, locals := 147 })
theorem mw_L_part : MWh mL_part := ⟨w_688, w_20⟩
theorem ar_L_part : Ar mL_part.1 3 := ⟨⟨by decide +kernel, by decide +kernel⟩, by decide +kernel⟩
def mL_issue : MI := (yL_issue, cL_issue, 3, (Option.some Jvm.ClassFile.FieldType.int), [(0, 5, 6, 16), (0, 5, 10, 26)], { frames := 8, cells := 11, slots := 94, locals := 195 })
theorem mw_L_issue : MWh mL_issue := ⟨w_703, w_20⟩
theorem ar_L_issue : Ar mL_issue.1 2 := ⟨⟨by decide +kernel, by decide +kernel⟩, by decide +kernel⟩
def mL_fly : MI := (yL_fly, cL_fly, 4, (Option.some Jvm.ClassFile.FieldType.int), [(0, 6, 7, 16), (0, 6, 11, 26)], { frames := 7, cells := 2, slots := 12, locals := 116 })
theorem mw_L_fly : MWh mL_fly := ⟨w_902, w_20⟩
theorem ar_L_fly : Ar mL_fly.1 3 := ⟨⟨by decide +kernel, by decide +kernel⟩, by decide +kernel⟩
def mL_endorse : MI := (yL_endorse, cL_endorse, 5, (Option.some Jvm.ClassFile.FieldType.int), [(0, 7, 8, 16), (0, 7, 13, 26)], { frames := 7, cells := 1, slots := 6, locals := 118 })
theorem mw_L_endorse : MWh mL_endorse := ⟨w_893, w_20⟩
theorem ar_L_endorse : Ar mL_endorse.1 4 := ⟨⟨by decide +kernel, by decide +kernel⟩, by decide +kernel⟩
def mL_refund : MI := (yL_refund, cL_refund, 3, (Option.some Jvm.ClassFile.FieldType.int), [(0, 5, 6, 16), (0, 5, 10, 26)], { frames := 7, cells := 1, slots := 6, locals := 117 })
theorem mw_L_refund : MWh mL_refund := ⟨w_853, w_20⟩
theorem ar_L_refund : Ar mL_refund.1 2 := ⟨⟨by decide +kernel, by decide +kernel⟩, by decide +kernel⟩
def mL_reissue : MI := (yL_reissue, cL_reissue, 3, (Option.some Jvm.ClassFile.FieldType.int), [(0, 5, 6, 16), (0, 5, 10, 26)], { frames := 8, cells := 11, slots := 94, locals := 198 })
theorem mw_L_reissue : MWh mL_reissue := ⟨w_882, w_20⟩
theorem ar_L_reissue : Ar mL_reissue.1 2 := ⟨⟨by decide +kernel, by decide +kernel⟩, by decide +kernel⟩
def mL_pass : MI := (yL_pass, cL_pass, 3, (Option.some Jvm.ClassFile.FieldType.int), [(0, 5, 6, 19), (0, 5, 10, 26)], { frames := 7, cells := 1, slots := 6, locals := 113 })
theorem mw_L_pass : MWh mL_pass := ⟨w_1043, w_20⟩
theorem ar_L_pass : Ar mL_pass.1 2 := ⟨⟨by decide +kernel, by decide +kernel⟩, by decide +kernel⟩
def mL_reject : MI := (yL_reject, cL_reject, 3, (Option.some Jvm.ClassFile.FieldType.int), [(0, 5, 6, 16), (0, 5, 10, 26)], { frames := 7, cells := 1, slots := 6, locals := 114 })
theorem mw_L_reject : MWh mL_reject := ⟨w_1027, w_20⟩
theorem ar_L_reject : Ar mL_reject.1 2 := ⟨⟨by decide +kernel, by decide +kernel⟩, by decide +kernel⟩
def mL_rebill : MI := (yL_rebill, cL_rebill, 3, (Option.some Jvm.ClassFile.FieldType.int), [(0, 6, 7, 16), (0, 6, 11, 26)], { frames := 7, cells := 1, slots := 6, locals := 114 })
theorem mw_L_rebill : MWh mL_rebill := ⟨w_1035, w_20⟩
theorem ar_L_rebill : Ar mL_rebill.1 2 := ⟨⟨by decide +kernel, by decide +kernel⟩, by decide +kernel⟩
def mL_fails : MI := (yL_fails, cL_fails, 4, (Option.some Jvm.ClassFile.FieldType.int), [(0, 6, 7, 16)], { frames := 7, cells := 1, slots := 6, locals := 116 })
theorem mw_L_fails : MWh mL_fails := ⟨w_998, w_20⟩
theorem ar_L_fails : Ar mL_fails.1 3 := ⟨⟨by decide +kernel, by decide +kernel⟩, by decide +kernel⟩
def mL_ofTicket : MI := (yL_ofTicket, cL_ofTicket, 4, (Option.some Jvm.ClassFile.FieldType.int), [(0, 6, 7, 16), (0, 6, 11, 19)], { frames := 7, cells := 1, slots := 6, locals := 115 })
theorem mw_L_ofTicket : MWh mL_ofTicket := ⟨w_423, w_20⟩
theorem ar_L_ofTicket : Ar mL_ofTicket.1 3 := ⟨⟨by decide +kernel, by decide +kernel⟩, by decide +kernel⟩
def mL_ofCoupon : MI := (yL_ofCoupon, cL_ofCoupon, 5, (Option.some Jvm.ClassFile.FieldType.int), [(0, 7, 8, 16), (0, 7, 13, 19)], { frames := 7, cells := 1, slots := 6, locals := 117 })
theorem mw_L_ofCoupon : MWh mL_ofCoupon := ⟨w_431, w_20⟩
theorem ar_L_ofCoupon : Ar mL_ofCoupon.1 4 := ⟨⟨by decide +kernel, by decide +kernel⟩, by decide +kernel⟩
def mL_ofBill : MI := (yL_ofBill, cL_ofBill, 4, (Option.some Jvm.ClassFile.FieldType.int), [(0, 6, 7, 16), (0, 6, 11, 19)], { frames := 7, cells := 1, slots := 6, locals := 115 })
theorem mw_L_ofBill : MWh mL_ofBill := ⟨w_440, w_20⟩
theorem ar_L_ofBill : Ar mL_ofBill.1 3 := ⟨⟨by decide +kernel, by decide +kernel⟩, by decide +kernel⟩
def mL_cash : MI := (yL_cash, cL_cash, 3, (Option.some Jvm.ClassFile.FieldType.long), [(0, 5, 6, 16)], { frames := 7, cells := 1, slots := 6, locals := 113 })
theorem mw_L_cash : MWh mL_cash := ⟨w_358, w_20⟩
theorem ar_L_cash : Ar mL_cash.1 2 := ⟨⟨by decide +kernel, by decide +kernel⟩, by decide +kernel⟩
def mL_cashAnew : MI := (yL_cashAnew, cL_cashAnew, 3, (Option.some Jvm.ClassFile.FieldType.long), [(0, 5, 6, 16)], { frames := 7, cells := 1, slots := 6, locals := 117 })
theorem mw_L_cashAnew : MWh mL_cashAnew := ⟨w_385, w_20⟩
theorem ar_L_cashAnew : Ar mL_cashAnew.1 2 := ⟨⟨by decide +kernel, by decide +kernel⟩, by decide +kernel⟩
def mL_state : MI := (yL_state, cL_state, 3, (Option.some Jvm.ClassFile.FieldType.long), [(0, 5, 6, 16)], { frames := 7, cells := 1, slots := 6, locals := 113 })
theorem mw_L_state : MWh mL_state := ⟨w_370, w_20⟩
theorem ar_L_state : Ar mL_state.1 2 := ⟨⟨by decide +kernel, by decide +kernel⟩, by decide +kernel⟩
def mL_of : MI := (yL_of, cL_of, 3, (Option.some Jvm.ClassFile.FieldType.int), [(0, 5, 6, 19)], { frames := 7, cells := 1, slots := 6, locals := 113 })
theorem mw_L_of : MWh mL_of := ⟨w_377, w_20⟩
theorem ar_L_of : Ar mL_of.1 2 := ⟨⟨by decide +kernel, by decide +kernel⟩, by decide +kernel⟩
def mL_balances : MI := (yL_balances, cL_balances, 6, (Option.some Jvm.ClassFile.FieldType.boolean), [], { frames := 8, cells := 45, slots := 270, locals := 139 })
theorem mw_L_balances : MW mL_balances := ⟨w_355, w_20⟩
theorem ar_L_balances : Ar mL_balances.1 2 := ⟨⟨by decide +kernel, by decide +kernel⟩, by decide +kernel⟩
def mL_isWay : MI := (yL_isWay, cL_isWay, 9, (Option.some Jvm.ClassFile.FieldType.boolean), [], { frames := 9, cells := 23, slots := 166, locals := 217 })
theorem mw_L_isWay : MW mL_isWay := ⟨w_606, w_20⟩
theorem ar_L_isWay : Ar mL_isWay.1 2 := ⟨⟨by decide +kernel, by decide +kernel⟩, by decide +kernel⟩
def mL_isTicket : MI := (yL_isTicket, cL_isTicket, 12, (Option.some Jvm.ClassFile.FieldType.boolean), [], { frames := 8, cells := 78, slots := 468, locals := 141 })
theorem mw_L_isTicket : MW mL_isTicket := ⟨w_420, w_20⟩
theorem ar_L_isTicket : Ar mL_isTicket.1 3 := ⟨⟨by decide +kernel, by decide +kernel⟩, by decide +kernel⟩
def mL_isBill : MI := (yL_isBill, cL_isBill, 6, (Option.some Jvm.ClassFile.FieldType.boolean), [], { frames := 8, cells := 6, slots := 36, locals := 138 })
theorem mw_L_isBill : MW mL_isBill := ⟨w_449, w_20⟩
theorem ar_L_isBill : Ar mL_isBill.1 3 := ⟨⟨by decide +kernel, by decide +kernel⟩, by decide +kernel⟩
def mL_tells : MI := (yL_tells, cL_tells, 9, (Option.some Jvm.ClassFile.FieldType.boolean), [], { frames := 8, cells := 11, slots := 67, locals := 145 })
theorem mw_L_tells : MW mL_tells := ⟨w_452, w_20⟩
theorem ar_L_tells : Ar mL_tells.1 4 := ⟨⟨by decide +kernel, by decide +kernel⟩, by decide +kernel⟩
def mL_travels : MI := (yL_travels, cL_travels, 10, (Option.some Jvm.ClassFile.FieldType.boolean), [], { frames := 8, cells := 2, slots := 12, locals := 141 })
theorem mw_L_travels : MW mL_travels := ⟨w_580, w_20⟩
theorem ar_L_travels : Ar mL_travels.1 5 := ⟨⟨by decide +kernel, by decide +kernel⟩, by decide +kernel⟩
def mL_sells : MI := (yL_sells, cL_sells, 10, (Option.some Jvm.ClassFile.FieldType.boolean), [], { frames := 9, cells := 200, slots := 1284, locals := 220 })
theorem mw_L_sells : MW mL_sells := ⟨w_850, w_20⟩
theorem ar_L_sells : Ar mL_sells.1 4 := ⟨⟨by decide +kernel, by decide +kernel⟩, by decide +kernel⟩
def mL_flies : MI := (yL_flies, cL_flies, 9, (Option.some Jvm.ClassFile.FieldType.boolean), [], { frames := 9, cells := 91, slots := 546, locals := 172 })
theorem mw_L_flies : MW mL_flies := ⟨w_890, w_20⟩
theorem ar_L_flies : Ar mL_flies.1 3 := ⟨⟨by decide +kernel, by decide +kernel⟩, by decide +kernel⟩
def mL_clears : MI := (yL_clears, cL_clears, 9, (Option.some Jvm.ClassFile.FieldType.boolean), [], { frames := 9, cells := 17, slots := 102, locals := 163 })
theorem mw_L_clears : MW mL_clears := ⟨w_946, w_20⟩
theorem ar_L_clears : Ar mL_clears.1 4 := ⟨⟨by decide +kernel, by decide +kernel⟩, by decide +kernel⟩
def mL_acts : MI := (yL_acts, cL_acts, 7, (Option.some Jvm.ClassFile.FieldType.boolean), [], { frames := 10, cells := 413, slots := 2591, locals := 249 })
theorem mw_L_acts : MW mL_acts := ⟨w_577, w_20⟩
theorem ar_L_acts : Ar mL_acts.1 5 := ⟨⟨by decide +kernel, by decide +kernel⟩, by decide +kernel⟩
theorem tw_X11_61 : TW RX11 61 65 "java/lang/IndexOutOfBoundsException" := ⟨by decide +kernel, by decide +kernel, w_255, w_32, by decide +kernel, by decide +kernel⟩
theorem tw_X11_72 : TW RX11 72 76 "java/lang/IllegalArgumentException" := ⟨by decide +kernel, by decide +kernel, w_326, w_33, by decide +kernel, by decide +kernel⟩
theorem tw_X11_94 : TW RX11 94 98 "java/lang/IllegalStateException" := ⟨by decide +kernel, by decide +kernel, w_468, w_34, by decide +kernel, by decide +kernel⟩
/-! calls of methods whose answer is told as a value -/
def FQ (σ1 : AH) (rv : Option Value) : AH → Option Value → Prop := fun σ' r => σ' = σ1 ∧ r = rv
section FC
variable {g : GP} {μ z : MI} {E : ET} {CX : State → Array Value → Prop} {k n k' n' pc : Nat} {ls : List (Nat × Value)} {st as : List Value} {σ σ1 : AH} {v : Value}
theorem V_callS1 {idx m : Nat} (hc : Ct g z as σ (FQ σ1 (some v))) (hm : MW z) (hs : Cond.static z.1 ∈ lw_good) (hl : Cond.methodLink μ.1.cls idx z.1 ∈ lw_good) (ha : Ar z.1 m) (hm2 : m = as.length) (rf : RF μ z k n k' n' st) (hd : decode μ.2.1 pc = .ok (.invokestatic idx, 3)) (kk : V g μ E CX k' n' (pc + 3) ls (v :: st) σ1) : V g μ E CX k n pc ls (as.reverse ++ st) σ :=
  V_callS (m := 0) hc hm hs hl (hm2 ▸ ha) rf hd (fun σ' rv h => by obtain ⟨rfl, rfl⟩ := h; exact kk)
theorem V_callSN1 {idx m : Nat} {host : String} (hc : Ct g z as σ (FQ σ1 (some v))) (hm : MW z) (hs : Cond.static z.1 ∈ lw_good) (hl : (μ.1.cls, idx, z.1, host) ∈ lw_nest) (ha : Ar z.1 m) (hm2 : m = as.length) (rf : RF μ z k n k' n' st) (hd : decode μ.2.1 pc = .ok (.invokestatic idx, 3)) (kk : V g μ E CX k' n' (pc + 3) ls (v :: st) σ1) : V g μ E CX k n pc ls (as.reverse ++ st) σ :=
  V_callSN hc hm hs hl (hm2 ▸ ha) rf hd (fun σ' rv h => by obtain ⟨rfl, rfl⟩ := h; exact kk)
theorem V_callV1 {idx ci a m : Nat} {CC : String} {T : u_T} (hc : Ct g z (.ref a :: as) σ (FQ σ1 (some v))) (hm : MW z) (ko : KO ci CC T) (hCC : z.1.cls = CC) (hi : Cond.instanceMethod z.1 ∈ lw_good) (hs : Cond.selects CC z.1 z.1 ∈ lw_good) (hl : Cond.methodLink μ.1.cls idx z.1 ∈ lw_good) (ha : Ar z.1 m) (hm2 : m = as.length) (rf : RF μ z k n k' n' st) (hd : decode μ.2.1 pc = .ok (.invokevirtual idx, 3)) (h0 : a ≠ 0) (hK : zK σ a = ci) (kk : V g μ E CX k' n' (pc + 3) ls (v :: st) σ1) : V g μ E CX k n pc ls (as.reverse ++ .ref a :: st) σ :=
  V_callV hc hm ko hCC hi hs hl (hm2 ▸ ha) rf hd h0 hK (fun σ' rv h => by obtain ⟨rfl, rfl⟩ := h; exact kk)
theorem V_callV0 {idx ci a m : Nat} {CC : String} {T : u_T} (hc : Ct g z (.ref a :: as) σ (FQ σ1 none)) (hm : MW z) (ko : KO ci CC T) (hCC : z.1.cls = CC) (hi : Cond.instanceMethod z.1 ∈ lw_good) (hs : Cond.selects CC z.1 z.1 ∈ lw_good) (hl : Cond.methodLink μ.1.cls idx z.1 ∈ lw_good) (ha : Ar z.1 m) (hm2 : m = as.length) (rf : RF μ z k n k' n' st) (hd : decode μ.2.1 pc = .ok (.invokevirtual idx, 3)) (h0 : a ≠ 0) (hK : zK σ a = ci) (kk : V g μ E CX k' n' (pc + 3) ls st σ1) : V g μ E CX k n pc ls (as.reverse ++ .ref a :: st) σ :=
  V_callV hc hm ko hCC hi hs hl (hm2 ▸ ha) rf hd h0 hK (fun σ' rv h => by obtain ⟨rfl, rfl⟩ := h; exact kk)
theorem V_callI0 {idx a m : Nat} (hc : Ct g z (.ref a :: as) σ (FQ σ1 none)) (hm : MW z) (hr : z.2.2.2.1 = none) (hn : z.1.name = "<init>") (hi : Cond.instanceMethod z.1 ∈ lw_good) (hl : Cond.methodLink μ.1.cls idx z.1 ∈ lw_good) (ha : Ar z.1 m) (hm2 : m = as.length) (rf : RF μ z k n k' n' st) (hd : decode μ.2.1 pc = .ok (.invokespecial idx, 3)) (h0 : a ≠ 0) (kk : V g μ E CX k' n' (pc + 3) ls st σ1) : V g μ E CX k n pc ls (as.reverse ++ .ref a :: st) σ :=
  V_callI hc hm hr hn hi hl (hm2 ▸ ha) rf hd h0 (fun σ' rv h => by obtain ⟨rfl, rfl⟩ := h; exact kk)
theorem V_callIN0 {idx a m : Nat} {host : String} (hc : Ct g z (.ref a :: as) σ (FQ σ1 none)) (hm : MW z) (hr : z.2.2.2.1 = none) (hn : z.1.name = "<init>") (hi : Cond.instanceMethod z.1 ∈ lw_good) (hl : (μ.1.cls, idx, z.1, host) ∈ lw_nest) (ha : Ar z.1 m) (hm2 : m = as.length) (rf : RF μ z k n k' n' st) (hd : decode μ.2.1 pc = .ok (.invokespecial idx, 3)) (h0 : a ≠ 0) (kk : V g μ E CX k' n' (pc + 3) ls st σ1) : V g μ E CX k n pc ls (as.reverse ++ .ref a :: st) σ :=
  V_callIN hc hm hr hn hi hl (hm2 ▸ ha) rf hd h0 (fun σ' rv h => by obtain ⟨rfl, rfl⟩ := h; exact kk)
end FC
theorem zI_self (σ : AH) (a k : Nat) (x : Int32) : zI (uI σ a k x) a k = x := by rw [zI_uI, if_pos ⟨rfl, rfl⟩]
theorem zI_oth (σ : AH) (a b k j : Nat) (x : Int32) (h : j ≠ k) : zI (uI σ a k x) b j = zI σ b j := by rw [zI_uI, if_neg (fun q => h q.2)]
theorem zJ_self (σ : AH) (a k : Nat) (x : Int64) : zJ (uJ σ a k x) a k = x := by rw [zJ_uJ, if_pos ⟨rfl, rfl⟩]
theorem zJ_oth (σ : AH) (a b k j : Nat) (x : Int64) (h : j ≠ k) : zJ (uJ σ a k x) b j = zJ σ b j := by rw [zJ_uJ, if_neg (fun q => h q.2)]
theorem zR_self (σ : AH) (a k x : Nat) : zR (uR σ a k x) a k = x := by rw [zR_uR, if_pos ⟨rfl, rfl⟩]
theorem zR_oth (σ : AH) (a b k j x : Nat) (h : j ≠ k) : zR (uR σ a k x) b j = zR σ b j := by rw [zR_uR, if_neg (fun q => h q.2)]
theorem mm_nil {ls : List (Nat × Value)} : ∀ q ∈ ([] : List (Nat × Value)), q ∈ ls := fun _ h => by cases h
theorem mm_keep {x : Nat × Value} {l l' : List (Nat × Value)} (h : ∀ q ∈ l', q ∈ l) : ∀ q ∈ x :: l', q ∈ x :: l := fun q hq => (List.mem_cons.mp hq).elim (fun e => e ▸ List.mem_cons_self) (fun h2 => List.mem_cons_of_mem _ (h q h2))
theorem mm_drop {x : Nat × Value} {l l' : List (Nat × Value)} (h : ∀ q ∈ l', q ∈ l) : ∀ q ∈ l', q ∈ x :: l := fun q hq => List.mem_cons_of_mem _ (h q hq)

