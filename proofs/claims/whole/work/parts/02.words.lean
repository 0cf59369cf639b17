/-! ===== WORDS OF THE TABLES, BY THEIR PLACES (printed by wip/whole/gen/mk02.py) ===== -/
def tbg : List Cond := lw_tbl.filter goodWord
theorem tb_in {w : Cond} (h : w ∈ tables_1) (g : goodWord w = true) : w ∈ tbg := List.mem_filter.mpr ⟨List.mem_append_right _ h, g⟩
theorem tb_sel {w : Cond} (h : w ∈ k2_sels lw_privs) (g : goodWord w = true) : w ∈ tbg := List.mem_filter.mpr ⟨List.mem_append_left _ h, g⟩
theorem tb_tbl {w : Cond} (h : w ∈ tbg) : w ∈ lw_tbl := (List.mem_filter.mp h).1
theorem tb_good {ws : List Cond} (h : ∀ w ∈ ws, w ∈ tbg) : GoodIn tbg ws := fun w hw => ⟨h w hw, good_of_word (List.mem_filter.mp (h w hw)).2⟩
theorem tb_cons {w : Cond} {ws : List Cond} (h : w ∈ tbg) (h2 : ∀ w ∈ ws, w ∈ tbg) : ∀ x ∈ w :: ws, x ∈ tbg := fun x hx => (List.mem_cons.mp hx).elim (fun e => e ▸ h) (h2 x)
theorem tb_self : ∀ w ∈ tbg, w ∈ tbg := fun _ h => h
theorem wm0 : (Cond.initialized "MetreFractionsLaw") ∈ tbg := tb_in (List.mem_of_getElem? (i := 0) (by decide +kernel)) rfl
theorem wm1 : (Cond.initialized "MetreFractions") ∈ tbg := tb_in (List.mem_of_getElem? (i := 1) (by decide +kernel)) rfl
theorem wm2 : (Cond.initialized "MetreFractions$Weights") ∈ tbg := tb_in (List.mem_of_getElem? (i := 2) (by decide +kernel)) rfl
theorem wm3 : (Cond.initialized "MetreFractions$Calculator") ∈ tbg := tb_in (List.mem_of_getElem? (i := 3) (by decide +kernel)) rfl
theorem wm4 : (Cond.initialized "MetreFractions$Divider") ∈ tbg := tb_in (List.mem_of_getElem? (i := 4) (by decide +kernel)) rfl
theorem wm5 : (Cond.initialized "MetreFractions$Natural") ∈ tbg := tb_in (List.mem_of_getElem? (i := 5) (by decide +kernel)) rfl
theorem wm6 : (Cond.initialized "java/lang/Math") ∈ tbg := tb_in (List.mem_of_getElem? (i := 6) (by decide +kernel)) rfl
theorem wm7 : (Cond.initialized "MetreFractions$CommonDivisor") ∈ tbg := tb_in (List.mem_of_getElem? (i := 7) (by decide +kernel)) rfl
theorem wm8 : (Cond.initialized "MetreFractions$Fraction") ∈ tbg := tb_in (List.mem_of_getElem? (i := 8) (by decide +kernel)) rfl
theorem wm9 : (Cond.initialized "java/util/Arrays") ∈ tbg := tb_in (List.mem_of_getElem? (i := 9) (by decide +kernel)) rfl
theorem wm10 : (Cond.initialized "java/lang/System") ∈ tbg := tb_in (List.mem_of_getElem? (i := 10) (by decide +kernel)) rfl
theorem wm11 : (Cond.initialized "MetreFractions$Row") ∈ tbg := tb_in (List.mem_of_getElem? (i := 11) (by decide +kernel)) rfl
theorem wm12 : (Cond.initialized "MetreFractionsModel") ∈ tbg := tb_in (List.mem_of_getElem? (i := 12) (by decide +kernel)) rfl
theorem wm13 : (Cond.initialized "java/lang/Throwable") ∈ tbg := tb_in (List.mem_of_getElem? (i := 13) (by decide +kernel)) rfl
theorem wm14 : (Cond.initialized "java/lang/Exception") ∈ tbg := tb_in (List.mem_of_getElem? (i := 14) (by decide +kernel)) rfl
theorem wm15 : (Cond.initialized "java/lang/RuntimeException") ∈ tbg := tb_in (List.mem_of_getElem? (i := 15) (by decide +kernel)) rfl
theorem wm16 : (Cond.initialized "java/lang/ArithmeticException") ∈ tbg := tb_in (List.mem_of_getElem? (i := 16) (by decide +kernel)) rfl
theorem wm17 : (Cond.initialized "java/lang/IllegalArgumentException") ∈ tbg := tb_in (List.mem_of_getElem? (i := 17) (by decide +kernel)) rfl
theorem wm18 : (Cond.initialized "MetreFractions$Value") ∈ tbg := tb_in (List.mem_of_getElem? (i := 18) (by decide +kernel)) rfl
theorem wm19 : (Cond.initialized "java/lang/IndexOutOfBoundsException") ∈ tbg := tb_in (List.mem_of_getElem? (i := 19) (by decide +kernel)) rfl
theorem wm20 : (Cond.classLink "MetreFractionsLaw" 8 "MetreFractions") ∈ tbg := tb_in (List.mem_of_getElem? (i := 20) (by decide +kernel)) rfl
theorem wm21 : (Cond.instantiable "MetreFractions" 14) ∈ tbg := tb_in (List.mem_of_getElem? (i := 21) (by decide +kernel)) rfl
theorem wm22 : (Cond.methodLink "MetreFractionsLaw" 64 ⟨"MetreFractions", "<init>", "()V"⟩) ∈ tbg := tb_in (List.mem_of_getElem? (i := 22) (by decide +kernel)) rfl
theorem wm23 : (Cond.instanceMethod ⟨"MetreFractions", "<init>", "()V"⟩) ∈ tbg := tb_in (List.mem_of_getElem? (i := 23) (by decide +kernel)) rfl
set_option maxRecDepth 100000 in
theorem wm24 : (Cond.code ⟨"MetreFractions", "<init>", "()V"⟩ prog_1_method_1_code 2 (Option.none : Option Jvm.ClassFile.FieldType)) ∈ tbg := tb_in (List.mem_of_getElem? (i := 24) (rfl)) rfl
theorem wm25 : (Cond.methodLink "MetreFractions" 1 ⟨"java/lang/Object", "<init>", "()V"⟩) ∈ tbg := tb_in (List.mem_of_getElem? (i := 25) (by decide +kernel)) rfl
theorem wm26 : (Cond.instanceMethod ⟨"java/lang/Object", "<init>", "()V"⟩) ∈ tbg := tb_in (List.mem_of_getElem? (i := 26) (by decide +kernel)) rfl
set_option maxRecDepth 100000 in
theorem wm27 : (Cond.code ⟨"java/lang/Object", "<init>", "()V"⟩ object_method_1_code 1 (Option.none : Option Jvm.ClassFile.FieldType)) ∈ tbg := tb_in (List.mem_of_getElem? (i := 27) (rfl)) rfl
theorem wm28 : (Cond.classLink "MetreFractions" 9 "MetreFractions$Value") ∈ tbg := tb_in (List.mem_of_getElem? (i := 28) (by decide +kernel)) rfl
theorem wm30 : (Cond.classLink "MetreFractions" 19 "MetreFractions$Row") ∈ tbg := tb_in (List.mem_of_getElem? (i := 30) (by decide +kernel)) rfl
theorem wm32 : (Cond.classLink "MetreFractions" 28 "MetreFractions$Weights") ∈ tbg := tb_in (List.mem_of_getElem? (i := 32) (by decide +kernel)) rfl
theorem wm33 : (Cond.instantiable "MetreFractions$Weights" 3) ∈ tbg := tb_in (List.mem_of_getElem? (i := 33) (by decide +kernel)) rfl
theorem wm35 : (Cond.instanceMethod ⟨"MetreFractions$Weights", "<init>", "()V"⟩) ∈ tbg := tb_in (List.mem_of_getElem? (i := 35) (by decide +kernel)) rfl
set_option maxRecDepth 100000 in
theorem wm36 : (Cond.code ⟨"MetreFractions$Weights", "<init>", "()V"⟩ prog_9_method_1_code 1 (Option.none : Option Jvm.ClassFile.FieldType)) ∈ tbg := tb_in (List.mem_of_getElem? (i := 36) (rfl)) rfl
theorem wm37 : (Cond.methodLink "MetreFractions$Weights" 3 ⟨"java/lang/Object", "<init>", "()V"⟩) ∈ tbg := tb_in (List.mem_of_getElem? (i := 37) (by decide +kernel)) rfl
theorem wm38 : (Cond.fieldLink "MetreFractions$Weights" 9 "MetreFractions$Weights" "each" "[I") ∈ tbg := tb_in (List.mem_of_getElem? (i := 38) (by decide +kernel)) rfl
theorem wm39 : (Cond.fieldLink "MetreFractions$Weights" 15 "MetreFractions$Weights" "cutOff" "[J") ∈ tbg := tb_in (List.mem_of_getElem? (i := 39) (by decide +kernel)) rfl
theorem wm40 : (Cond.fieldLink "MetreFractions$Weights" 19 "MetreFractions$Weights" "count" "I") ∈ tbg := tb_in (List.mem_of_getElem? (i := 40) (by decide +kernel)) rfl
theorem wm41 : (Cond.fieldLink "MetreFractions" 202 "MetreFractions$Weights" "count" "I") ∈ tbg := tb_in (List.mem_of_getElem? (i := 41) (by decide +kernel)) rfl
theorem wm42 : (Cond.laysFinal "MetreFractions$Weights" "MetreFractions$Weights" "each" "[I") ∈ tbg := tb_in (List.mem_of_getElem? (i := 42) (by decide +kernel)) rfl
theorem wm44 : (Cond.laysFinal "MetreFractions$Weights" "MetreFractions$Weights" "cutOff" "[J") ∈ tbg := tb_in (List.mem_of_getElem? (i := 44) (by decide +kernel)) rfl
theorem wm46 : (Cond.lays "MetreFractions$Weights" "MetreFractions$Weights" "count" "I") ∈ tbg := tb_in (List.mem_of_getElem? (i := 46) (by decide +kernel)) rfl
theorem wm49 : (Cond.arrayClass .int) ∈ tbg := tb_in (List.mem_of_getElem? (i := 49) (by decide +kernel)) rfl
theorem wm50 : (Cond.arrayClass .long) ∈ tbg := tb_in (List.mem_of_getElem? (i := 50) (by decide +kernel)) rfl
theorem wm51 : (Cond.classLink "MetreFractions" 35 "MetreFractions$Calculator") ∈ tbg := tb_in (List.mem_of_getElem? (i := 51) (by decide +kernel)) rfl
theorem wm52 : (Cond.instantiable "MetreFractions$Calculator" 8) ∈ tbg := tb_in (List.mem_of_getElem? (i := 52) (by decide +kernel)) rfl
theorem wm54 : (Cond.instanceMethod ⟨"MetreFractions$Calculator", "<init>", "()V"⟩) ∈ tbg := tb_in (List.mem_of_getElem? (i := 54) (by decide +kernel)) rfl
set_option maxRecDepth 100000 in
theorem wm55 : (Cond.code ⟨"MetreFractions$Calculator", "<init>", "()V"⟩ prog_2_method_1_code 1 (Option.none : Option Jvm.ClassFile.FieldType)) ∈ tbg := tb_in (List.mem_of_getElem? (i := 55) (rfl)) rfl
theorem wm56 : (Cond.methodLink "MetreFractions$Calculator" 3 ⟨"java/lang/Object", "<init>", "()V"⟩) ∈ tbg := tb_in (List.mem_of_getElem? (i := 56) (by decide +kernel)) rfl
theorem wm57 : (Cond.classLink "MetreFractions$Calculator" 9 "MetreFractions$Divider") ∈ tbg := tb_in (List.mem_of_getElem? (i := 57) (by decide +kernel)) rfl
theorem wm58 : (Cond.instantiable "MetreFractions$Divider" 3) ∈ tbg := tb_in (List.mem_of_getElem? (i := 58) (by decide +kernel)) rfl
theorem wm60 : (Cond.instanceMethod ⟨"MetreFractions$Divider", "<init>", "()V"⟩) ∈ tbg := tb_in (List.mem_of_getElem? (i := 60) (by decide +kernel)) rfl
set_option maxRecDepth 100000 in
theorem wm61 : (Cond.code ⟨"MetreFractions$Divider", "<init>", "()V"⟩ prog_4_method_1_code 1 (Option.none : Option Jvm.ClassFile.FieldType)) ∈ tbg := tb_in (List.mem_of_getElem? (i := 61) (rfl)) rfl
theorem wm62 : (Cond.methodLink "MetreFractions$Divider" 3 ⟨"java/lang/Object", "<init>", "()V"⟩) ∈ tbg := tb_in (List.mem_of_getElem? (i := 62) (by decide +kernel)) rfl
theorem wm63 : (Cond.classLink "MetreFractions$Divider" 9 "MetreFractions$Natural") ∈ tbg := tb_in (List.mem_of_getElem? (i := 63) (by decide +kernel)) rfl
theorem wm64 : (Cond.instantiable "MetreFractions$Natural" 2) ∈ tbg := tb_in (List.mem_of_getElem? (i := 64) (by decide +kernel)) rfl
theorem wm65 : (Cond.methodLink "MetreFractions$Divider" 11 ⟨"MetreFractions$Natural", "<init>", "(I)V"⟩) ∈ tbg := tb_in (List.mem_of_getElem? (i := 65) (by decide +kernel)) rfl
theorem wm66 : (Cond.instanceMethod ⟨"MetreFractions$Natural", "<init>", "(I)V"⟩) ∈ tbg := tb_in (List.mem_of_getElem? (i := 66) (by decide +kernel)) rfl
set_option maxRecDepth 100000 in
theorem wm67 : (Cond.code ⟨"MetreFractions$Natural", "<init>", "(I)V"⟩ prog_6_method_1_code 2 (Option.none : Option Jvm.ClassFile.FieldType)) ∈ tbg := tb_in (List.mem_of_getElem? (i := 67) (rfl)) rfl
theorem wm68 : (Cond.methodLink "MetreFractions$Natural" 3 ⟨"java/lang/Object", "<init>", "()V"⟩) ∈ tbg := tb_in (List.mem_of_getElem? (i := 68) (by decide +kernel)) rfl
theorem wm69 : (Cond.methodLink "MetreFractions$Natural" 15 ⟨"java/lang/Math", "max", "(II)I"⟩) ∈ tbg := tb_in (List.mem_of_getElem? (i := 69) (by decide +kernel)) rfl
theorem wm70 : (Cond.static ⟨"java/lang/Math", "max", "(II)I"⟩) ∈ tbg := tb_in (List.mem_of_getElem? (i := 70) (by decide +kernel)) rfl
set_option maxRecDepth 100000 in
theorem wm71 : (Cond.code ⟨"java/lang/Math", "max", "(II)I"⟩ prog_17_method_65_code 2 (Option.some .int)) ∈ tbg := tb_in (List.mem_of_getElem? (i := 71) (rfl)) rfl
theorem wm72 : (Cond.fieldLink "MetreFractions$Natural" 21 "MetreFractions$Natural" "limbs" "[I") ∈ tbg := tb_in (List.mem_of_getElem? (i := 72) (by decide +kernel)) rfl
theorem wm73 : (Cond.fieldLink "MetreFractions$Divider" 72 "MetreFractions$Natural" "limbs" "[I") ∈ tbg := tb_in (List.mem_of_getElem? (i := 73) (by decide +kernel)) rfl
theorem wm74 : (Cond.fieldLink "MetreFractions$CommonDivisor" 103 "MetreFractions$Natural" "limbs" "[I") ∈ tbg := tb_in (List.mem_of_getElem? (i := 74) (by decide +kernel)) rfl
theorem wm75 : (Cond.fieldLink "MetreFractions$Natural" 9 "MetreFractions$Natural" "size" "I") ∈ tbg := tb_in (List.mem_of_getElem? (i := 75) (by decide +kernel)) rfl
theorem wm76 : (Cond.fieldLink "MetreFractions$Divider" 26 "MetreFractions$Natural" "size" "I") ∈ tbg := tb_in (List.mem_of_getElem? (i := 76) (by decide +kernel)) rfl
theorem wm77 : (Cond.fieldLink "MetreFractions$CommonDivisor" 36 "MetreFractions$Natural" "size" "I") ∈ tbg := tb_in (List.mem_of_getElem? (i := 77) (by decide +kernel)) rfl
theorem wm78 : (Cond.fieldLink "MetreFractions$Fraction" 38 "MetreFractions$Natural" "size" "I") ∈ tbg := tb_in (List.mem_of_getElem? (i := 78) (by decide +kernel)) rfl
theorem wm79 : (Cond.fieldLink "MetreFractions$Calculator" 104 "MetreFractions$Natural" "size" "I") ∈ tbg := tb_in (List.mem_of_getElem? (i := 79) (by decide +kernel)) rfl
theorem wm80 : (Cond.lays "MetreFractions$Natural" "MetreFractions$Natural" "limbs" "[I") ∈ tbg := tb_in (List.mem_of_getElem? (i := 80) (by decide +kernel)) rfl
theorem wm82 : (Cond.lays "MetreFractions$Natural" "MetreFractions$Natural" "size" "I") ∈ tbg := tb_in (List.mem_of_getElem? (i := 82) (by decide +kernel)) rfl
theorem wm85 : (Cond.fieldLink "MetreFractions$Divider" 14 "MetreFractions$Divider" "quotient" "LMetreFractions$Natural;") ∈ tbg := tb_in (List.mem_of_getElem? (i := 85) (by decide +kernel)) rfl
theorem wm86 : (Cond.fieldLink "MetreFractions$Calculator" 94 "MetreFractions$Divider" "quotient" "LMetreFractions$Natural;") ∈ tbg := tb_in (List.mem_of_getElem? (i := 86) (by decide +kernel)) rfl
theorem wm87 : (Cond.fieldLink "MetreFractions$Divider" 20 "MetreFractions$Divider" "remainder" "LMetreFractions$Natural;") ∈ tbg := tb_in (List.mem_of_getElem? (i := 87) (by decide +kernel)) rfl
theorem wm88 : (Cond.fieldLink "MetreFractions$CommonDivisor" 53 "MetreFractions$Divider" "remainder" "LMetreFractions$Natural;") ∈ tbg := tb_in (List.mem_of_getElem? (i := 88) (by decide +kernel)) rfl
theorem wm89 : (Cond.fieldLink "MetreFractions$Calculator" 117 "MetreFractions$Divider" "remainder" "LMetreFractions$Natural;") ∈ tbg := tb_in (List.mem_of_getElem? (i := 89) (by decide +kernel)) rfl
theorem wm90 : (Cond.fieldLink "MetreFractions$Divider" 23 "MetreFractions$Divider" "divisor" "LMetreFractions$Natural;") ∈ tbg := tb_in (List.mem_of_getElem? (i := 90) (by decide +kernel)) rfl
theorem wm91 : (Cond.laysFinal "MetreFractions$Divider" "MetreFractions$Divider" "quotient" "LMetreFractions$Natural;") ∈ tbg := tb_in (List.mem_of_getElem? (i := 91) (by decide +kernel)) rfl
theorem wm93 : (Cond.laysFinal "MetreFractions$Divider" "MetreFractions$Divider" "remainder" "LMetreFractions$Natural;") ∈ tbg := tb_in (List.mem_of_getElem? (i := 93) (by decide +kernel)) rfl
theorem wm95 : (Cond.laysFinal "MetreFractions$Divider" "MetreFractions$Divider" "divisor" "LMetreFractions$Natural;") ∈ tbg := tb_in (List.mem_of_getElem? (i := 95) (by decide +kernel)) rfl
theorem wm98 : (Cond.classLink "MetreFractions$Calculator" 18 "MetreFractions$CommonDivisor") ∈ tbg := tb_in (List.mem_of_getElem? (i := 98) (by decide +kernel)) rfl
theorem wm99 : (Cond.instantiable "MetreFractions$CommonDivisor" 7) ∈ tbg := tb_in (List.mem_of_getElem? (i := 99) (by decide +kernel)) rfl
theorem wm100 : (Cond.methodLink "MetreFractions$Calculator" 20 ⟨"MetreFractions$CommonDivisor", "<init>", "(LMetreFractions$Divider;)V"⟩) ∈ tbg := tb_in (List.mem_of_getElem? (i := 100) (by decide +kernel)) rfl
theorem wm101 : (Cond.instanceMethod ⟨"MetreFractions$CommonDivisor", "<init>", "(LMetreFractions$Divider;)V"⟩) ∈ tbg := tb_in (List.mem_of_getElem? (i := 101) (by decide +kernel)) rfl
set_option maxRecDepth 100000 in
theorem wm102 : (Cond.code ⟨"MetreFractions$CommonDivisor", "<init>", "(LMetreFractions$Divider;)V"⟩ prog_3_method_1_code 2 (Option.none : Option Jvm.ClassFile.FieldType)) ∈ tbg := tb_in (List.mem_of_getElem? (i := 102) (rfl)) rfl
theorem wm103 : (Cond.methodLink "MetreFractions$CommonDivisor" 3 ⟨"java/lang/Object", "<init>", "()V"⟩) ∈ tbg := tb_in (List.mem_of_getElem? (i := 103) (by decide +kernel)) rfl
theorem wm104 : (Cond.classLink "MetreFractions$CommonDivisor" 9 "MetreFractions$Natural") ∈ tbg := tb_in (List.mem_of_getElem? (i := 104) (by decide +kernel)) rfl
theorem wm105 : (Cond.methodLink "MetreFractions$CommonDivisor" 11 ⟨"MetreFractions$Natural", "<init>", "(I)V"⟩) ∈ tbg := tb_in (List.mem_of_getElem? (i := 105) (by decide +kernel)) rfl
theorem wm106 : (Cond.fieldLink "MetreFractions$CommonDivisor" 23 "MetreFractions$CommonDivisor" "divider" "LMetreFractions$Divider;") ∈ tbg := tb_in (List.mem_of_getElem? (i := 106) (by decide +kernel)) rfl
theorem wm107 : (Cond.fieldLink "MetreFractions$CommonDivisor" 14 "MetreFractions$CommonDivisor" "big" "LMetreFractions$Natural;") ∈ tbg := tb_in (List.mem_of_getElem? (i := 107) (by decide +kernel)) rfl
theorem wm108 : (Cond.fieldLink "MetreFractions$CommonDivisor" 20 "MetreFractions$CommonDivisor" "small" "LMetreFractions$Natural;") ∈ tbg := tb_in (List.mem_of_getElem? (i := 108) (by decide +kernel)) rfl
theorem wm109 : (Cond.fieldLink "MetreFractions$CommonDivisor" 79 "MetreFractions$CommonDivisor" "a" "J") ∈ tbg := tb_in (List.mem_of_getElem? (i := 109) (by decide +kernel)) rfl
theorem wm110 : (Cond.fieldLink "MetreFractions$CommonDivisor" 83 "MetreFractions$CommonDivisor" "b" "J") ∈ tbg := tb_in (List.mem_of_getElem? (i := 110) (by decide +kernel)) rfl
theorem wm111 : (Cond.fieldLink "MetreFractions$CommonDivisor" 86 "MetreFractions$CommonDivisor" "c" "J") ∈ tbg := tb_in (List.mem_of_getElem? (i := 111) (by decide +kernel)) rfl
theorem wm112 : (Cond.fieldLink "MetreFractions$CommonDivisor" 89 "MetreFractions$CommonDivisor" "d" "J") ∈ tbg := tb_in (List.mem_of_getElem? (i := 112) (by decide +kernel)) rfl
theorem wm113 : (Cond.laysFinal "MetreFractions$CommonDivisor" "MetreFractions$CommonDivisor" "divider" "LMetreFractions$Divider;") ∈ tbg := tb_in (List.mem_of_getElem? (i := 113) (by decide +kernel)) rfl
theorem wm115 : (Cond.laysFinal "MetreFractions$CommonDivisor" "MetreFractions$CommonDivisor" "big" "LMetreFractions$Natural;") ∈ tbg := tb_in (List.mem_of_getElem? (i := 115) (by decide +kernel)) rfl
theorem wm117 : (Cond.laysFinal "MetreFractions$CommonDivisor" "MetreFractions$CommonDivisor" "small" "LMetreFractions$Natural;") ∈ tbg := tb_in (List.mem_of_getElem? (i := 117) (by decide +kernel)) rfl
theorem wm119 : (Cond.lays "MetreFractions$CommonDivisor" "MetreFractions$CommonDivisor" "a" "J") ∈ tbg := tb_in (List.mem_of_getElem? (i := 119) (by decide +kernel)) rfl
theorem wm121 : (Cond.lays "MetreFractions$CommonDivisor" "MetreFractions$CommonDivisor" "b" "J") ∈ tbg := tb_in (List.mem_of_getElem? (i := 121) (by decide +kernel)) rfl
theorem wm123 : (Cond.lays "MetreFractions$CommonDivisor" "MetreFractions$CommonDivisor" "c" "J") ∈ tbg := tb_in (List.mem_of_getElem? (i := 123) (by decide +kernel)) rfl
theorem wm125 : (Cond.lays "MetreFractions$CommonDivisor" "MetreFractions$CommonDivisor" "d" "J") ∈ tbg := tb_in (List.mem_of_getElem? (i := 125) (by decide +kernel)) rfl
theorem wm128 : (Cond.classLink "MetreFractions$Calculator" 27 "MetreFractions$Natural") ∈ tbg := tb_in (List.mem_of_getElem? (i := 128) (by decide +kernel)) rfl
theorem wm129 : (Cond.methodLink "MetreFractions$Calculator" 29 ⟨"MetreFractions$Natural", "<init>", "(I)V"⟩) ∈ tbg := tb_in (List.mem_of_getElem? (i := 129) (by decide +kernel)) rfl
theorem wm130 : (Cond.fieldLink "MetreFractions$Calculator" 12 "MetreFractions$Calculator" "divider" "LMetreFractions$Divider;") ∈ tbg := tb_in (List.mem_of_getElem? (i := 130) (by decide +kernel)) rfl
theorem wm131 : (Cond.fieldLink "MetreFractions$Calculator" 23 "MetreFractions$Calculator" "commonDivisor" "LMetreFractions$CommonDivisor;") ∈ tbg := tb_in (List.mem_of_getElem? (i := 131) (by decide +kernel)) rfl
theorem wm132 : (Cond.fieldLink "MetreFractions$Calculator" 32 "MetreFractions$Calculator" "shared" "LMetreFractions$Natural;") ∈ tbg := tb_in (List.mem_of_getElem? (i := 132) (by decide +kernel)) rfl
theorem wm133 : (Cond.fieldLink "MetreFractions$Calculator" 36 "MetreFractions$Calculator" "leftAbove" "LMetreFractions$Natural;") ∈ tbg := tb_in (List.mem_of_getElem? (i := 133) (by decide +kernel)) rfl
theorem wm134 : (Cond.fieldLink "MetreFractions$Calculator" 39 "MetreFractions$Calculator" "leftBelow" "LMetreFractions$Natural;") ∈ tbg := tb_in (List.mem_of_getElem? (i := 134) (by decide +kernel)) rfl
theorem wm135 : (Cond.fieldLink "MetreFractions$Calculator" 42 "MetreFractions$Calculator" "rightAbove" "LMetreFractions$Natural;") ∈ tbg := tb_in (List.mem_of_getElem? (i := 135) (by decide +kernel)) rfl
theorem wm136 : (Cond.fieldLink "MetreFractions$Calculator" 45 "MetreFractions$Calculator" "rightBelow" "LMetreFractions$Natural;") ∈ tbg := tb_in (List.mem_of_getElem? (i := 136) (by decide +kernel)) rfl
theorem wm137 : (Cond.fieldLink "MetreFractions$Calculator" 48 "MetreFractions$Calculator" "together" "LMetreFractions$Natural;") ∈ tbg := tb_in (List.mem_of_getElem? (i := 137) (by decide +kernel)) rfl
theorem wm138 : (Cond.laysFinal "MetreFractions$Calculator" "MetreFractions$Calculator" "divider" "LMetreFractions$Divider;") ∈ tbg := tb_in (List.mem_of_getElem? (i := 138) (by decide +kernel)) rfl
theorem wm140 : (Cond.laysFinal "MetreFractions$Calculator" "MetreFractions$Calculator" "commonDivisor" "LMetreFractions$CommonDivisor;") ∈ tbg := tb_in (List.mem_of_getElem? (i := 140) (by decide +kernel)) rfl
theorem wm142 : (Cond.laysFinal "MetreFractions$Calculator" "MetreFractions$Calculator" "shared" "LMetreFractions$Natural;") ∈ tbg := tb_in (List.mem_of_getElem? (i := 142) (by decide +kernel)) rfl
theorem wm144 : (Cond.laysFinal "MetreFractions$Calculator" "MetreFractions$Calculator" "leftAbove" "LMetreFractions$Natural;") ∈ tbg := tb_in (List.mem_of_getElem? (i := 144) (by decide +kernel)) rfl
theorem wm146 : (Cond.laysFinal "MetreFractions$Calculator" "MetreFractions$Calculator" "leftBelow" "LMetreFractions$Natural;") ∈ tbg := tb_in (List.mem_of_getElem? (i := 146) (by decide +kernel)) rfl
theorem wm148 : (Cond.laysFinal "MetreFractions$Calculator" "MetreFractions$Calculator" "rightAbove" "LMetreFractions$Natural;") ∈ tbg := tb_in (List.mem_of_getElem? (i := 148) (by decide +kernel)) rfl
theorem wm150 : (Cond.laysFinal "MetreFractions$Calculator" "MetreFractions$Calculator" "rightBelow" "LMetreFractions$Natural;") ∈ tbg := tb_in (List.mem_of_getElem? (i := 150) (by decide +kernel)) rfl
theorem wm152 : (Cond.laysFinal "MetreFractions$Calculator" "MetreFractions$Calculator" "together" "LMetreFractions$Natural;") ∈ tbg := tb_in (List.mem_of_getElem? (i := 152) (by decide +kernel)) rfl
theorem wm155 : (Cond.classLink "MetreFractions" 42 "MetreFractions$Fraction") ∈ tbg := tb_in (List.mem_of_getElem? (i := 155) (by decide +kernel)) rfl
theorem wm156 : (Cond.instantiable "MetreFractions$Fraction" 3) ∈ tbg := tb_in (List.mem_of_getElem? (i := 156) (by decide +kernel)) rfl
theorem wm157 : (Cond.methodLink "MetreFractions" 44 ⟨"MetreFractions$Fraction", "<init>", "(II)V"⟩) ∈ tbg := tb_in (List.mem_of_getElem? (i := 157) (by decide +kernel)) rfl
theorem wm158 : (Cond.instanceMethod ⟨"MetreFractions$Fraction", "<init>", "(II)V"⟩) ∈ tbg := tb_in (List.mem_of_getElem? (i := 158) (by decide +kernel)) rfl
set_option maxRecDepth 100000 in
theorem wm159 : (Cond.code ⟨"MetreFractions$Fraction", "<init>", "(II)V"⟩ prog_5_method_1_code 3 (Option.none : Option Jvm.ClassFile.FieldType)) ∈ tbg := tb_in (List.mem_of_getElem? (i := 159) (rfl)) rfl
theorem wm160 : (Cond.methodLink "MetreFractions$Fraction" 3 ⟨"java/lang/Object", "<init>", "()V"⟩) ∈ tbg := tb_in (List.mem_of_getElem? (i := 160) (by decide +kernel)) rfl
theorem wm161 : (Cond.classLink "MetreFractions$Fraction" 15 "MetreFractions$Natural") ∈ tbg := tb_in (List.mem_of_getElem? (i := 161) (by decide +kernel)) rfl
theorem wm162 : (Cond.methodLink "MetreFractions$Fraction" 17 ⟨"MetreFractions$Natural", "<init>", "(I)V"⟩) ∈ tbg := tb_in (List.mem_of_getElem? (i := 162) (by decide +kernel)) rfl
theorem wm163 : (Cond.fieldLink "MetreFractions$Fraction" 9 "MetreFractions$Fraction" "sign" "I") ∈ tbg := tb_in (List.mem_of_getElem? (i := 163) (by decide +kernel)) rfl
theorem wm164 : (Cond.fieldLink "MetreFractions$Calculator" 55 "MetreFractions$Fraction" "sign" "I") ∈ tbg := tb_in (List.mem_of_getElem? (i := 164) (by decide +kernel)) rfl
theorem wm165 : (Cond.fieldLink "MetreFractions" 122 "MetreFractions$Fraction" "sign" "I") ∈ tbg := tb_in (List.mem_of_getElem? (i := 165) (by decide +kernel)) rfl
theorem wm166 : (Cond.fieldLink "MetreFractions$Fraction" 20 "MetreFractions$Fraction" "above" "LMetreFractions$Natural;") ∈ tbg := tb_in (List.mem_of_getElem? (i := 166) (by decide +kernel)) rfl
theorem wm167 : (Cond.fieldLink "MetreFractions$Calculator" 80 "MetreFractions$Fraction" "above" "LMetreFractions$Natural;") ∈ tbg := tb_in (List.mem_of_getElem? (i := 167) (by decide +kernel)) rfl
theorem wm168 : (Cond.fieldLink "MetreFractions" 138 "MetreFractions$Fraction" "above" "LMetreFractions$Natural;") ∈ tbg := tb_in (List.mem_of_getElem? (i := 168) (by decide +kernel)) rfl
theorem wm169 : (Cond.fieldLink "MetreFractions$Fraction" 24 "MetreFractions$Fraction" "below" "LMetreFractions$Natural;") ∈ tbg := tb_in (List.mem_of_getElem? (i := 169) (by decide +kernel)) rfl
theorem wm170 : (Cond.fieldLink "MetreFractions$Calculator" 65 "MetreFractions$Fraction" "below" "LMetreFractions$Natural;") ∈ tbg := tb_in (List.mem_of_getElem? (i := 170) (by decide +kernel)) rfl
theorem wm171 : (Cond.fieldLink "MetreFractions" 148 "MetreFractions$Fraction" "below" "LMetreFractions$Natural;") ∈ tbg := tb_in (List.mem_of_getElem? (i := 171) (by decide +kernel)) rfl
theorem wm172 : (Cond.lays "MetreFractions$Fraction" "MetreFractions$Fraction" "sign" "I") ∈ tbg := tb_in (List.mem_of_getElem? (i := 172) (by decide +kernel)) rfl
theorem wm174 : (Cond.laysFinal "MetreFractions$Fraction" "MetreFractions$Fraction" "above" "LMetreFractions$Natural;") ∈ tbg := tb_in (List.mem_of_getElem? (i := 174) (by decide +kernel)) rfl
theorem wm176 : (Cond.laysFinal "MetreFractions$Fraction" "MetreFractions$Fraction" "below" "LMetreFractions$Natural;") ∈ tbg := tb_in (List.mem_of_getElem? (i := 176) (by decide +kernel)) rfl
theorem wm179 : (Cond.methodLink "MetreFractions" 60 ⟨"MetreFractions$Fraction", "ofLowestTerms", "(II)LMetreFractions$Fraction;"⟩) ∈ tbg := tb_in (List.mem_of_getElem? (i := 179) (by decide +kernel)) rfl
theorem wm180 : (Cond.static ⟨"MetreFractions$Fraction", "ofLowestTerms", "(II)LMetreFractions$Fraction;"⟩) ∈ tbg := tb_in (List.mem_of_getElem? (i := 180) (by decide +kernel)) rfl
set_option maxRecDepth 100000 in
theorem wm181 : (Cond.code ⟨"MetreFractions$Fraction", "ofLowestTerms", "(II)LMetreFractions$Fraction;"⟩ prog_5_method_2_code 3 (Option.some (.object "MetreFractions$Fraction"))) ∈ tbg := tb_in (List.mem_of_getElem? (i := 181) (rfl)) rfl
theorem wm182 : (Cond.classLink "MetreFractions$Fraction" 10 "MetreFractions$Fraction") ∈ tbg := tb_in (List.mem_of_getElem? (i := 182) (by decide +kernel)) rfl
theorem wm183 : (Cond.methodLink "MetreFractions$Fraction" 27 ⟨"MetreFractions$Fraction", "<init>", "(II)V"⟩) ∈ tbg := tb_in (List.mem_of_getElem? (i := 183) (by decide +kernel)) rfl
theorem wm184 : (Cond.methodLink "MetreFractions$Fraction" 30 ⟨"MetreFractions$Natural", "setMagnitude", "(J)V"⟩) ∈ tbg := tb_in (List.mem_of_getElem? (i := 184) (by decide +kernel)) rfl
theorem wm185 : (Cond.instanceMethod ⟨"MetreFractions$Natural", "setMagnitude", "(J)V"⟩) ∈ tbg := tb_in (List.mem_of_getElem? (i := 185) (by decide +kernel)) rfl
theorem wm186 : (Cond.selects "MetreFractions$Natural" ⟨"MetreFractions$Natural", "setMagnitude", "(J)V"⟩ ⟨"MetreFractions$Natural", "setMagnitude", "(J)V"⟩) ∈ tbg := tb_in (List.mem_of_getElem? (i := 186) (by decide +kernel)) rfl
set_option maxRecDepth 100000 in
theorem wm187 : (Cond.code ⟨"MetreFractions$Natural", "setMagnitude", "(J)V"⟩ prog_6_method_14_code 6 (Option.none : Option Jvm.ClassFile.FieldType)) ∈ tbg := tb_in (List.mem_of_getElem? (i := 187) (rfl)) rfl
theorem wm188 : (Cond.methodLink "MetreFractions$Natural" 31 ⟨"MetreFractions$Natural", "grow", "(I)V"⟩) ∈ tbg := tb_in (List.mem_of_getElem? (i := 188) (by decide +kernel)) rfl
theorem wm189 : (Cond.instanceMethod ⟨"MetreFractions$Natural", "grow", "(I)V"⟩) ∈ tbg := tb_in (List.mem_of_getElem? (i := 189) (by decide +kernel)) rfl
theorem wm190 : (Cond.selects "MetreFractions$Natural" ⟨"MetreFractions$Natural", "grow", "(I)V"⟩ ⟨"MetreFractions$Natural", "grow", "(I)V"⟩) ∈ tbg := tb_in (List.mem_of_getElem? (i := 190) (by decide +kernel)) rfl
set_option maxRecDepth 100000 in
theorem wm191 : (Cond.code ⟨"MetreFractions$Natural", "grow", "(I)V"⟩ prog_6_method_2_code 2 (Option.none : Option Jvm.ClassFile.FieldType)) ∈ tbg := tb_in (List.mem_of_getElem? (i := 191) (rfl)) rfl
theorem wm192 : (Cond.methodLink "MetreFractions$Natural" 25 ⟨"java/util/Arrays", "copyOf", "([II)[I"⟩) ∈ tbg := tb_in (List.mem_of_getElem? (i := 192) (by decide +kernel)) rfl
theorem wm193 : (Cond.static ⟨"java/util/Arrays", "copyOf", "([II)[I"⟩) ∈ tbg := tb_in (List.mem_of_getElem? (i := 193) (by decide +kernel)) rfl
set_option maxRecDepth 100000 in
theorem wm194 : (Cond.code ⟨"java/util/Arrays", "copyOf", "([II)[I"⟩ prog_22_method_123_code 3 (Option.some (.array .int))) ∈ tbg := tb_in (List.mem_of_getElem? (i := 194) (rfl)) rfl
theorem wm195 : (Cond.methodLink "java/util/Arrays" 316 ⟨"[I", "clone", "()Ljava/lang/Object;"⟩) ∈ tbg := tb_in (List.mem_of_getElem? (i := 195) (by decide +kernel)) rfl
theorem wm197 : (Cond.native ⟨"java/lang/Object", "clone", "()Ljava/lang/Object;"⟩) ∈ tbg := tb_in (List.mem_of_getElem? (i := 197) (by decide +kernel)) rfl
theorem wm198 : (Cond.instanceMethod ⟨"java/lang/Object", "clone", "()Ljava/lang/Object;"⟩) ∈ tbg := tb_in (List.mem_of_getElem? (i := 198) (by decide +kernel)) rfl
theorem wm199 : (Cond.selects "[I" ⟨"[I", "clone", "()Ljava/lang/Object;"⟩ ⟨"java/lang/Object", "clone", "()Ljava/lang/Object;"⟩) ∈ tbg := tb_in (List.mem_of_getElem? (i := 199) (by decide +kernel)) rfl
theorem wm201 : (Cond.classLink "java/util/Arrays" 317 "[I") ∈ tbg := tb_in (List.mem_of_getElem? (i := 201) (by decide +kernel)) rfl
theorem wm202 : (Cond.methodLink "java/util/Arrays" 304 ⟨"java/lang/Math", "min", "(II)I"⟩) ∈ tbg := tb_in (List.mem_of_getElem? (i := 202) (by decide +kernel)) rfl
theorem wm203 : (Cond.static ⟨"java/lang/Math", "min", "(II)I"⟩) ∈ tbg := tb_in (List.mem_of_getElem? (i := 203) (by decide +kernel)) rfl
set_option maxRecDepth 100000 in
theorem wm204 : (Cond.code ⟨"java/lang/Math", "min", "(II)I"⟩ prog_17_method_69_code 2 (Option.some .int)) ∈ tbg := tb_in (List.mem_of_getElem? (i := 204) (rfl)) rfl
theorem wm205 : (Cond.methodLink "java/util/Arrays" 150 ⟨"java/lang/System", "arraycopy", "(Ljava/lang/Object;ILjava/lang/Object;II)V"⟩) ∈ tbg := tb_in (List.mem_of_getElem? (i := 205) (by decide +kernel)) rfl
theorem wm206 : (Cond.static ⟨"java/lang/System", "arraycopy", "(Ljava/lang/Object;ILjava/lang/Object;II)V"⟩) ∈ tbg := tb_in (List.mem_of_getElem? (i := 206) (by decide +kernel)) rfl
theorem wm207 : (Cond.native ⟨"java/lang/System", "arraycopy", "(Ljava/lang/Object;ILjava/lang/Object;II)V"⟩) ∈ tbg := tb_in (List.mem_of_getElem? (i := 207) (by decide +kernel)) rfl
theorem wm208 : (Cond.constantLong "MetreFractions$Natural" 39 1000000000) ∈ tbg := tb_in (List.mem_of_getElem? (i := 208) (by decide +kernel)) rfl
theorem wm209 : (Cond.methodLink "MetreFractions$Natural" 53 ⟨"java/lang/Math", "abs", "(J)J"⟩) ∈ tbg := tb_in (List.mem_of_getElem? (i := 209) (by decide +kernel)) rfl
theorem wm210 : (Cond.static ⟨"java/lang/Math", "abs", "(J)J"⟩) ∈ tbg := tb_in (List.mem_of_getElem? (i := 210) (by decide +kernel)) rfl
set_option maxRecDepth 100000 in
theorem wm211 : (Cond.code ⟨"java/lang/Math", "abs", "(J)J"⟩ prog_17_method_61_code 2 (Option.some .long)) ∈ tbg := tb_in (List.mem_of_getElem? (i := 211) (rfl)) rfl
theorem wm212 : (Cond.methodLink "MetreFractions$Natural" 57 ⟨"MetreFractions$Natural", "trim", "()V"⟩) ∈ tbg := tb_in (List.mem_of_getElem? (i := 212) (by decide +kernel)) rfl
theorem wm213 : (Cond.instanceMethod ⟨"MetreFractions$Natural", "trim", "()V"⟩) ∈ tbg := tb_in (List.mem_of_getElem? (i := 213) (by decide +kernel)) rfl
theorem wm214 : (Cond.selects "MetreFractions$Natural" ⟨"MetreFractions$Natural", "trim", "()V"⟩ ⟨"MetreFractions$Natural", "trim", "()V"⟩) ∈ tbg := tb_in (List.mem_of_getElem? (i := 214) (by decide +kernel)) rfl
set_option maxRecDepth 100000 in
theorem wm215 : (Cond.code ⟨"MetreFractions$Natural", "trim", "()V"⟩ prog_6_method_4_code 1 (Option.none : Option Jvm.ClassFile.FieldType)) ∈ tbg := tb_in (List.mem_of_getElem? (i := 215) (rfl)) rfl
theorem wm216 : (Cond.instantiable "MetreFractions$Row" 3) ∈ tbg := tb_in (List.mem_of_getElem? (i := 216) (by decide +kernel)) rfl
theorem wm218 : (Cond.instanceMethod ⟨"MetreFractions$Row", "<init>", "()V"⟩) ∈ tbg := tb_in (List.mem_of_getElem? (i := 218) (by decide +kernel)) rfl
set_option maxRecDepth 100000 in
theorem wm219 : (Cond.code ⟨"MetreFractions$Row", "<init>", "()V"⟩ prog_7_method_1_code 1 (Option.none : Option Jvm.ClassFile.FieldType)) ∈ tbg := tb_in (List.mem_of_getElem? (i := 219) (rfl)) rfl
theorem wm220 : (Cond.methodLink "MetreFractions$Row" 3 ⟨"java/lang/Object", "<init>", "()V"⟩) ∈ tbg := tb_in (List.mem_of_getElem? (i := 220) (by decide +kernel)) rfl
theorem wm221 : (Cond.classLink "MetreFractions$Row" 9 "MetreFractions$Value") ∈ tbg := tb_in (List.mem_of_getElem? (i := 221) (by decide +kernel)) rfl
theorem wm222 : (Cond.fieldLink "MetreFractions$Row" 11 "MetreFractions$Row" "places" "[LMetreFractions$Value;") ∈ tbg := tb_in (List.mem_of_getElem? (i := 222) (by decide +kernel)) rfl
theorem wm223 : (Cond.fieldLink "MetreFractions" 171 "MetreFractions$Row" "places" "[LMetreFractions$Value;") ∈ tbg := tb_in (List.mem_of_getElem? (i := 223) (by decide +kernel)) rfl
theorem wm224 : (Cond.fieldLink "MetreFractions$Row" 17 "MetreFractions$Row" "heights" "[LMetreFractions$Value;") ∈ tbg := tb_in (List.mem_of_getElem? (i := 224) (by decide +kernel)) rfl
theorem wm225 : (Cond.fieldLink "MetreFractions" 174 "MetreFractions$Row" "heights" "[LMetreFractions$Value;") ∈ tbg := tb_in (List.mem_of_getElem? (i := 225) (by decide +kernel)) rfl
theorem wm226 : (Cond.fieldLink "MetreFractions$Row" 20 "MetreFractions$Row" "count" "I") ∈ tbg := tb_in (List.mem_of_getElem? (i := 226) (by decide +kernel)) rfl
theorem wm227 : (Cond.fieldLink "MetreFractions" 164 "MetreFractions$Row" "count" "I") ∈ tbg := tb_in (List.mem_of_getElem? (i := 227) (by decide +kernel)) rfl
theorem wm228 : (Cond.laysFinal "MetreFractions$Row" "MetreFractions$Row" "places" "[LMetreFractions$Value;") ∈ tbg := tb_in (List.mem_of_getElem? (i := 228) (by decide +kernel)) rfl
theorem wm230 : (Cond.laysFinal "MetreFractions$Row" "MetreFractions$Row" "heights" "[LMetreFractions$Value;") ∈ tbg := tb_in (List.mem_of_getElem? (i := 230) (by decide +kernel)) rfl
theorem wm232 : (Cond.lays "MetreFractions$Row" "MetreFractions$Row" "count" "I") ∈ tbg := tb_in (List.mem_of_getElem? (i := 232) (by decide +kernel)) rfl
theorem wm235 : (Cond.fieldLink "MetreFractions" 11 "MetreFractions" "values" "[LMetreFractions$Value;") ∈ tbg := tb_in (List.mem_of_getElem? (i := 235) (by decide +kernel)) rfl
theorem wm236 : (Cond.fieldLink "MetreFractions" 15 "MetreFractions" "valueCount" "I") ∈ tbg := tb_in (List.mem_of_getElem? (i := 236) (by decide +kernel)) rfl
theorem wm237 : (Cond.fieldLink "MetreFractions" 21 "MetreFractions" "rows" "[LMetreFractions$Row;") ∈ tbg := tb_in (List.mem_of_getElem? (i := 237) (by decide +kernel)) rfl
theorem wm238 : (Cond.fieldLink "MetreFractions" 25 "MetreFractions" "rowCount" "I") ∈ tbg := tb_in (List.mem_of_getElem? (i := 238) (by decide +kernel)) rfl
theorem wm239 : (Cond.fieldLink "MetreFractions" 31 "MetreFractions" "weights" "LMetreFractions$Weights;") ∈ tbg := tb_in (List.mem_of_getElem? (i := 239) (by decide +kernel)) rfl
theorem wm240 : (Cond.fieldLink "MetreFractions" 38 "MetreFractions" "calculator" "LMetreFractions$Calculator;") ∈ tbg := tb_in (List.mem_of_getElem? (i := 240) (by decide +kernel)) rfl
theorem wm241 : (Cond.fieldLink "MetreFractions" 47 "MetreFractions" "first" "LMetreFractions$Fraction;") ∈ tbg := tb_in (List.mem_of_getElem? (i := 241) (by decide +kernel)) rfl
theorem wm242 : (Cond.fieldLink "MetreFractions" 51 "MetreFractions" "second" "LMetreFractions$Fraction;") ∈ tbg := tb_in (List.mem_of_getElem? (i := 242) (by decide +kernel)) rfl
theorem wm243 : (Cond.fieldLink "MetreFractions" 54 "MetreFractions" "third" "LMetreFractions$Fraction;") ∈ tbg := tb_in (List.mem_of_getElem? (i := 243) (by decide +kernel)) rfl
theorem wm244 : (Cond.fieldLink "MetreFractions" 57 "MetreFractions" "sum" "LMetreFractions$Fraction;") ∈ tbg := tb_in (List.mem_of_getElem? (i := 244) (by decide +kernel)) rfl
theorem wm245 : (Cond.fieldLink "MetreFractions" 64 "MetreFractions" "zero" "LMetreFractions$Fraction;") ∈ tbg := tb_in (List.mem_of_getElem? (i := 245) (by decide +kernel)) rfl
theorem wm246 : (Cond.fieldLink "MetreFractions" 67 "MetreFractions" "four" "LMetreFractions$Fraction;") ∈ tbg := tb_in (List.mem_of_getElem? (i := 246) (by decide +kernel)) rfl
theorem wm247 : (Cond.fieldLink "MetreFractions" 70 "MetreFractions" "half" "LMetreFractions$Fraction;") ∈ tbg := tb_in (List.mem_of_getElem? (i := 247) (by decide +kernel)) rfl
theorem wm248 : (Cond.fieldLink "MetreFractions" 73 "MetreFractions" "sixth" "LMetreFractions$Fraction;") ∈ tbg := tb_in (List.mem_of_getElem? (i := 248) (by decide +kernel)) rfl
theorem wm249 : (Cond.laysFinal "MetreFractions" "MetreFractions" "values" "[LMetreFractions$Value;") ∈ tbg := tb_in (List.mem_of_getElem? (i := 249) (by decide +kernel)) rfl
theorem wm251 : (Cond.lays "MetreFractions" "MetreFractions" "valueCount" "I") ∈ tbg := tb_in (List.mem_of_getElem? (i := 251) (by decide +kernel)) rfl
theorem wm253 : (Cond.laysFinal "MetreFractions" "MetreFractions" "rows" "[LMetreFractions$Row;") ∈ tbg := tb_in (List.mem_of_getElem? (i := 253) (by decide +kernel)) rfl
theorem wm255 : (Cond.lays "MetreFractions" "MetreFractions" "rowCount" "I") ∈ tbg := tb_in (List.mem_of_getElem? (i := 255) (by decide +kernel)) rfl
theorem wm257 : (Cond.laysFinal "MetreFractions" "MetreFractions" "weights" "LMetreFractions$Weights;") ∈ tbg := tb_in (List.mem_of_getElem? (i := 257) (by decide +kernel)) rfl
theorem wm259 : (Cond.laysFinal "MetreFractions" "MetreFractions" "calculator" "LMetreFractions$Calculator;") ∈ tbg := tb_in (List.mem_of_getElem? (i := 259) (by decide +kernel)) rfl
theorem wm261 : (Cond.laysFinal "MetreFractions" "MetreFractions" "first" "LMetreFractions$Fraction;") ∈ tbg := tb_in (List.mem_of_getElem? (i := 261) (by decide +kernel)) rfl
theorem wm263 : (Cond.laysFinal "MetreFractions" "MetreFractions" "second" "LMetreFractions$Fraction;") ∈ tbg := tb_in (List.mem_of_getElem? (i := 263) (by decide +kernel)) rfl
theorem wm265 : (Cond.laysFinal "MetreFractions" "MetreFractions" "third" "LMetreFractions$Fraction;") ∈ tbg := tb_in (List.mem_of_getElem? (i := 265) (by decide +kernel)) rfl
theorem wm267 : (Cond.laysFinal "MetreFractions" "MetreFractions" "sum" "LMetreFractions$Fraction;") ∈ tbg := tb_in (List.mem_of_getElem? (i := 267) (by decide +kernel)) rfl
theorem wm269 : (Cond.laysFinal "MetreFractions" "MetreFractions" "zero" "LMetreFractions$Fraction;") ∈ tbg := tb_in (List.mem_of_getElem? (i := 269) (by decide +kernel)) rfl
theorem wm271 : (Cond.laysFinal "MetreFractions" "MetreFractions" "four" "LMetreFractions$Fraction;") ∈ tbg := tb_in (List.mem_of_getElem? (i := 271) (by decide +kernel)) rfl
theorem wm273 : (Cond.laysFinal "MetreFractions" "MetreFractions" "half" "LMetreFractions$Fraction;") ∈ tbg := tb_in (List.mem_of_getElem? (i := 273) (by decide +kernel)) rfl
theorem wm275 : (Cond.laysFinal "MetreFractions" "MetreFractions" "sixth" "LMetreFractions$Fraction;") ∈ tbg := tb_in (List.mem_of_getElem? (i := 275) (by decide +kernel)) rfl
theorem wm278 : (Cond.methodLink "MetreFractionsLaw" 108 ⟨"MetreFractions", "clear", "()I"⟩) ∈ tbg := tb_in (List.mem_of_getElem? (i := 278) (by decide +kernel)) rfl
theorem wm279 : (Cond.instanceMethod ⟨"MetreFractions", "clear", "()I"⟩) ∈ tbg := tb_in (List.mem_of_getElem? (i := 279) (by decide +kernel)) rfl
theorem wm280 : (Cond.selects "MetreFractions" ⟨"MetreFractions", "clear", "()I"⟩ ⟨"MetreFractions", "clear", "()I"⟩) ∈ tbg := tb_in (List.mem_of_getElem? (i := 280) (by decide +kernel)) rfl
set_option maxRecDepth 100000 in
theorem wm281 : (Cond.code ⟨"MetreFractions", "clear", "()I"⟩ prog_1_method_11_code 2 (Option.some .int)) ∈ tbg := tb_in (List.mem_of_getElem? (i := 281) (rfl)) rfl
theorem wm282 : (Cond.methodLink "MetreFractionsLaw" 112 ⟨"MetreFractions", "row", "()I"⟩) ∈ tbg := tb_in (List.mem_of_getElem? (i := 282) (by decide +kernel)) rfl
theorem wm283 : (Cond.instanceMethod ⟨"MetreFractions", "row", "()I"⟩) ∈ tbg := tb_in (List.mem_of_getElem? (i := 283) (by decide +kernel)) rfl
theorem wm284 : (Cond.selects "MetreFractions" ⟨"MetreFractions", "row", "()I"⟩ ⟨"MetreFractions", "row", "()I"⟩) ∈ tbg := tb_in (List.mem_of_getElem? (i := 284) (by decide +kernel)) rfl
set_option maxRecDepth 100000 in
theorem wm285 : (Cond.code ⟨"MetreFractions", "row", "()I"⟩ prog_1_method_12_code 1 (Option.some .int)) ∈ tbg := tb_in (List.mem_of_getElem? (i := 285) (rfl)) rfl
theorem wm286 : (Cond.methodLink "MetreFractionsLaw" 129 ⟨"MetreFractions", "noWeights", "()I"⟩) ∈ tbg := tb_in (List.mem_of_getElem? (i := 286) (by decide +kernel)) rfl
theorem wm287 : (Cond.instanceMethod ⟨"MetreFractions", "noWeights", "()I"⟩) ∈ tbg := tb_in (List.mem_of_getElem? (i := 287) (by decide +kernel)) rfl
theorem wm288 : (Cond.selects "MetreFractions" ⟨"MetreFractions", "noWeights", "()I"⟩ ⟨"MetreFractions", "noWeights", "()I"⟩) ∈ tbg := tb_in (List.mem_of_getElem? (i := 288) (by decide +kernel)) rfl
set_option maxRecDepth 100000 in
theorem wm289 : (Cond.code ⟨"MetreFractions", "noWeights", "()I"⟩ prog_1_method_17_code 2 (Option.some .int)) ∈ tbg := tb_in (List.mem_of_getElem? (i := 289) (rfl)) rfl
theorem wm290 : (Cond.methodLink "MetreFractionsLaw" 70 ⟨"MetreFractionsLaw", "value", "(LMetreFractions;JJI[J)I"⟩) ∈ tbg := tb_in (List.mem_of_getElem? (i := 290) (by decide +kernel)) rfl
theorem wm291 : (Cond.static ⟨"MetreFractionsLaw", "value", "(LMetreFractions;JJI[J)I"⟩) ∈ tbg := tb_in (List.mem_of_getElem? (i := 291) (by decide +kernel)) rfl
theorem wm293 : (Cond.classLink "MetreFractionsLaw" 13 "java/lang/ArithmeticException") ∈ tbg := tb_in (List.mem_of_getElem? (i := 293) (by decide +kernel)) rfl
theorem wm294 : (Cond.classLink "MetreFractionsLaw" 15 "java/lang/IllegalArgumentException") ∈ tbg := tb_in (List.mem_of_getElem? (i := 294) (by decide +kernel)) rfl
theorem wm295 : (Cond.methodLink "MetreFractionsLaw" 7 ⟨"MetreFractions", "value", "(JJI)I"⟩) ∈ tbg := tb_in (List.mem_of_getElem? (i := 295) (by decide +kernel)) rfl
theorem wm296 : (Cond.instanceMethod ⟨"MetreFractions", "value", "(JJI)I"⟩) ∈ tbg := tb_in (List.mem_of_getElem? (i := 296) (by decide +kernel)) rfl
theorem wm297 : (Cond.selects "MetreFractions" ⟨"MetreFractions", "value", "(JJI)I"⟩ ⟨"MetreFractions", "value", "(JJI)I"⟩) ∈ tbg := tb_in (List.mem_of_getElem? (i := 297) (by decide +kernel)) rfl
set_option maxRecDepth 100000 in
theorem wm298 : (Cond.code ⟨"MetreFractions", "value", "(JJI)I"⟩ prog_1_method_2_code 6 (Option.some .int)) ∈ tbg := tb_in (List.mem_of_getElem? (i := 298) (rfl)) rfl
theorem wm299 : (Cond.classLink "MetreFractions" 77 "java/lang/ArithmeticException") ∈ tbg := tb_in (List.mem_of_getElem? (i := 299) (by decide +kernel)) rfl
theorem wm300 : (Cond.instantiable "java/lang/ArithmeticException" 6) ∈ tbg := tb_in (List.mem_of_getElem? (i := 300) (by decide +kernel)) rfl
theorem wm308 : (Cond.selects "java/lang/ArithmeticException" ⟨"java/lang/Throwable", "fillInStackTrace", "(I)Ljava/lang/Throwable;"⟩ ⟨"java/lang/Throwable", "fillInStackTrace", "(I)Ljava/lang/Throwable;"⟩) ∈ tbg := tb_in (List.mem_of_getElem? (i := 308) (by decide +kernel)) rfl
theorem wm309 : (Cond.selects "java/lang/ArithmeticException" ⟨"java/lang/Throwable", "fillInStackTrace", "()Ljava/lang/Throwable;"⟩ ⟨"java/lang/Throwable", "fillInStackTrace", "()Ljava/lang/Throwable;"⟩) ∈ tbg := tb_in (List.mem_of_getElem? (i := 309) (by decide +kernel)) rfl
theorem wm310 : (Cond.lays "java/lang/ArithmeticException" "java/lang/Throwable" "cause" "Ljava/lang/Throwable;") ∈ tbg := tb_in (List.mem_of_getElem? (i := 310) (by decide +kernel)) rfl
theorem wm311 : (Cond.lays "java/lang/Throwable" "java/lang/Throwable" "cause" "Ljava/lang/Throwable;") ∈ tbg := tb_in (List.mem_of_getElem? (i := 311) (by decide +kernel)) rfl
theorem wm312 : (Cond.lays "java/lang/ArithmeticException" "java/lang/Throwable" "stackTrace" "[Ljava/lang/StackTraceElement;") ∈ tbg := tb_in (List.mem_of_getElem? (i := 312) (by decide +kernel)) rfl
theorem wm313 : (Cond.lays "java/lang/Throwable" "java/lang/Throwable" "stackTrace" "[Ljava/lang/StackTraceElement;") ∈ tbg := tb_in (List.mem_of_getElem? (i := 313) (by decide +kernel)) rfl
theorem wm314 : (Cond.lays "java/lang/ArithmeticException" "java/lang/Throwable" "suppressedExceptions" "Ljava/util/List;") ∈ tbg := tb_in (List.mem_of_getElem? (i := 314) (by decide +kernel)) rfl
theorem wm315 : (Cond.lays "java/lang/Throwable" "java/lang/Throwable" "suppressedExceptions" "Ljava/util/List;") ∈ tbg := tb_in (List.mem_of_getElem? (i := 315) (by decide +kernel)) rfl
theorem wm316 : (Cond.lays "java/lang/ArithmeticException" "java/lang/Throwable" "detailMessage" "Ljava/lang/String;") ∈ tbg := tb_in (List.mem_of_getElem? (i := 316) (by decide +kernel)) rfl
theorem wm317 : (Cond.lays "java/lang/Throwable" "java/lang/Throwable" "detailMessage" "Ljava/lang/String;") ∈ tbg := tb_in (List.mem_of_getElem? (i := 317) (by decide +kernel)) rfl
theorem wm318 : (Cond.lays "java/lang/ArithmeticException" "java/lang/Throwable" "backtrace" "Ljava/lang/Object;") ∈ tbg := tb_in (List.mem_of_getElem? (i := 318) (by decide +kernel)) rfl
theorem wm319 : (Cond.lays "java/lang/Throwable" "java/lang/Throwable" "backtrace" "Ljava/lang/Object;") ∈ tbg := tb_in (List.mem_of_getElem? (i := 319) (by decide +kernel)) rfl
theorem wm320 : (Cond.fieldLink "java/lang/Throwable" 198 "java/lang/Throwable" "backtrace" "Ljava/lang/Object;") ∈ tbg := tb_in (List.mem_of_getElem? (i := 320) (by decide +kernel)) rfl
theorem wm322 : (Cond.instanceMethod ⟨"java/lang/Throwable", "<init>", "()V"⟩) ∈ tbg := tb_in (List.mem_of_getElem? (i := 322) (by decide +kernel)) rfl
set_option maxRecDepth 100000 in
theorem wm323 : (Cond.code ⟨"java/lang/Throwable", "<init>", "()V"⟩ prog_21_method_1_code 1 (Option.none : Option Jvm.ClassFile.FieldType)) ∈ tbg := tb_in (List.mem_of_getElem? (i := 323) (rfl)) rfl
theorem wm324 : (Cond.methodLink "java/lang/Throwable" 1 ⟨"java/lang/Object", "<init>", "()V"⟩) ∈ tbg := tb_in (List.mem_of_getElem? (i := 324) (by decide +kernel)) rfl
theorem wm325 : (Cond.fieldLink "java/lang/Throwable" 13 "java/lang/Throwable" "UNASSIGNED_STACK" "[Ljava/lang/StackTraceElement;") ∈ tbg := tb_in (List.mem_of_getElem? (i := 325) (by decide +kernel)) rfl
theorem wm327 : (Cond.fieldLink "java/lang/Throwable" 20 "java/lang/Throwable" "SUPPRESSED_SENTINEL" "Ljava/util/List;") ∈ tbg := tb_in (List.mem_of_getElem? (i := 327) (by decide +kernel)) rfl
theorem wm329 : (Cond.methodLink "java/lang/Throwable" 27 ⟨"java/lang/Throwable", "fillInStackTrace", "()Ljava/lang/Throwable;"⟩) ∈ tbg := tb_in (List.mem_of_getElem? (i := 329) (by decide +kernel)) rfl
theorem wm330 : (Cond.instanceMethod ⟨"java/lang/Throwable", "fillInStackTrace", "()Ljava/lang/Throwable;"⟩) ∈ tbg := tb_in (List.mem_of_getElem? (i := 330) (by decide +kernel)) rfl
theorem wm332 : (Cond.selects "java/lang/IllegalArgumentException" ⟨"java/lang/Throwable", "fillInStackTrace", "()Ljava/lang/Throwable;"⟩ ⟨"java/lang/Throwable", "fillInStackTrace", "()Ljava/lang/Throwable;"⟩) ∈ tbg := tb_in (List.mem_of_getElem? (i := 332) (by decide +kernel)) rfl
theorem wm333 : (Cond.selects "java/lang/IndexOutOfBoundsException" ⟨"java/lang/Throwable", "fillInStackTrace", "()Ljava/lang/Throwable;"⟩ ⟨"java/lang/Throwable", "fillInStackTrace", "()Ljava/lang/Throwable;"⟩) ∈ tbg := tb_in (List.mem_of_getElem? (i := 333) (by decide +kernel)) rfl
theorem wm335 : (Cond.methodLink "java/lang/Throwable" 202 ⟨"java/lang/Throwable", "fillInStackTrace", "(I)Ljava/lang/Throwable;"⟩) ∈ tbg := tb_in (List.mem_of_getElem? (i := 335) (by decide +kernel)) rfl
theorem wm337 : (Cond.instanceMethod ⟨"java/lang/Throwable", "fillInStackTrace", "(I)Ljava/lang/Throwable;"⟩) ∈ tbg := tb_in (List.mem_of_getElem? (i := 337) (by decide +kernel)) rfl
theorem wm338 : (Cond.instantiable "java/lang/Throwable" 6) ∈ tbg := tb_in (List.mem_of_getElem? (i := 338) (by decide +kernel)) rfl
theorem wm339 : (Cond.native ⟨"java/lang/Throwable", "fillInStackTrace", "(I)Ljava/lang/Throwable;"⟩) ∈ tbg := tb_in (List.mem_of_getElem? (i := 339) (by decide +kernel)) rfl
theorem wm341 : (Cond.methodLink "MetreFractions" 81 ⟨"java/lang/ArithmeticException", "<init>", "(Ljava/lang/String;)V"⟩) ∈ tbg := tb_in (List.mem_of_getElem? (i := 341) (by decide +kernel)) rfl
theorem wm342 : (Cond.instanceMethod ⟨"java/lang/ArithmeticException", "<init>", "(Ljava/lang/String;)V"⟩) ∈ tbg := tb_in (List.mem_of_getElem? (i := 342) (by decide +kernel)) rfl
set_option maxRecDepth 100000 in
theorem wm343 : (Cond.code ⟨"java/lang/ArithmeticException", "<init>", "(Ljava/lang/String;)V"⟩ prog_12_method_2_code 2 (Option.none : Option Jvm.ClassFile.FieldType)) ∈ tbg := tb_in (List.mem_of_getElem? (i := 343) (rfl)) rfl
theorem wm344 : (Cond.methodLink "java/lang/ArithmeticException" 7 ⟨"java/lang/RuntimeException", "<init>", "(Ljava/lang/String;)V"⟩) ∈ tbg := tb_in (List.mem_of_getElem? (i := 344) (by decide +kernel)) rfl
theorem wm345 : (Cond.instanceMethod ⟨"java/lang/RuntimeException", "<init>", "(Ljava/lang/String;)V"⟩) ∈ tbg := tb_in (List.mem_of_getElem? (i := 345) (by decide +kernel)) rfl
set_option maxRecDepth 100000 in
theorem wm346 : (Cond.code ⟨"java/lang/RuntimeException", "<init>", "(Ljava/lang/String;)V"⟩ prog_18_method_2_code 2 (Option.none : Option Jvm.ClassFile.FieldType)) ∈ tbg := tb_in (List.mem_of_getElem? (i := 346) (rfl)) rfl
theorem wm347 : (Cond.methodLink "java/lang/RuntimeException" 7 ⟨"java/lang/Exception", "<init>", "(Ljava/lang/String;)V"⟩) ∈ tbg := tb_in (List.mem_of_getElem? (i := 347) (by decide +kernel)) rfl
theorem wm348 : (Cond.instanceMethod ⟨"java/lang/Exception", "<init>", "(Ljava/lang/String;)V"⟩) ∈ tbg := tb_in (List.mem_of_getElem? (i := 348) (by decide +kernel)) rfl
set_option maxRecDepth 100000 in
theorem wm349 : (Cond.code ⟨"java/lang/Exception", "<init>", "(Ljava/lang/String;)V"⟩ prog_14_method_2_code 2 (Option.none : Option Jvm.ClassFile.FieldType)) ∈ tbg := tb_in (List.mem_of_getElem? (i := 349) (rfl)) rfl
theorem wm350 : (Cond.methodLink "java/lang/Exception" 7 ⟨"java/lang/Throwable", "<init>", "(Ljava/lang/String;)V"⟩) ∈ tbg := tb_in (List.mem_of_getElem? (i := 350) (by decide +kernel)) rfl
theorem wm351 : (Cond.instanceMethod ⟨"java/lang/Throwable", "<init>", "(Ljava/lang/String;)V"⟩) ∈ tbg := tb_in (List.mem_of_getElem? (i := 351) (by decide +kernel)) rfl
set_option maxRecDepth 100000 in
theorem wm352 : (Cond.code ⟨"java/lang/Throwable", "<init>", "(Ljava/lang/String;)V"⟩ prog_21_method_2_code 2 (Option.none : Option Jvm.ClassFile.FieldType)) ∈ tbg := tb_in (List.mem_of_getElem? (i := 352) (rfl)) rfl
theorem wm353 : (Cond.fieldLink "java/lang/Throwable" 198 "java/lang/Throwable" "backtrace" "Ljava/lang/Object;") ∈ tbg := tb_in (List.mem_of_getElem? (i := 353) (by decide +kernel)) rfl
theorem wm354 : (Cond.fieldLink "java/lang/Throwable" 31 "java/lang/Throwable" "detailMessage" "Ljava/lang/String;") ∈ tbg := tb_in (List.mem_of_getElem? (i := 354) (by decide +kernel)) rfl
theorem wm355 : (Cond.fieldLink "java/lang/Throwable" 7 "java/lang/Throwable" "cause" "Ljava/lang/Throwable;") ∈ tbg := tb_in (List.mem_of_getElem? (i := 355) (by decide +kernel)) rfl
theorem wm356 : (Cond.fieldLink "java/lang/Throwable" 17 "java/lang/Throwable" "stackTrace" "[Ljava/lang/StackTraceElement;") ∈ tbg := tb_in (List.mem_of_getElem? (i := 356) (by decide +kernel)) rfl
theorem wm357 : (Cond.fieldLink "java/lang/Throwable" 24 "java/lang/Throwable" "suppressedExceptions" "Ljava/util/List;") ∈ tbg := tb_in (List.mem_of_getElem? (i := 357) (by decide +kernel)) rfl
theorem wm362 : (Cond.lays "java/lang/ArithmeticException" "java/lang/Throwable" "depth" "I") ∈ tbg := tb_in (List.mem_of_getElem? (i := 362) (by decide +kernel)) rfl
theorem wm366 : (Cond.arrayClass .byte) ∈ tbg := tb_in (List.mem_of_getElem? (i := 366) (by decide +kernel)) rfl
theorem wm367 : (Cond.methodLink "MetreFractions" 84 ⟨"MetreFractions", "isUnit", "(I)Z"⟩) ∈ tbg := tb_in (List.mem_of_getElem? (i := 367) (by decide +kernel)) rfl
theorem wm368 : (Cond.static ⟨"MetreFractions", "isUnit", "(I)Z"⟩) ∈ tbg := tb_in (List.mem_of_getElem? (i := 368) (by decide +kernel)) rfl
set_option maxRecDepth 100000 in
theorem wm369 : (Cond.code ⟨"MetreFractions", "isUnit", "(I)Z"⟩ prog_1_method_19_code 1 (Option.some .boolean)) ∈ tbg := tb_in (List.mem_of_getElem? (i := 369) (rfl)) rfl
theorem wm370 : (Cond.classLink "MetreFractions" 88 "java/lang/IllegalArgumentException") ∈ tbg := tb_in (List.mem_of_getElem? (i := 370) (by decide +kernel)) rfl
theorem wm371 : (Cond.instantiable "java/lang/IllegalArgumentException" 6) ∈ tbg := tb_in (List.mem_of_getElem? (i := 371) (by decide +kernel)) rfl
theorem wm373 : (Cond.selects "java/lang/IllegalArgumentException" ⟨"java/lang/Throwable", "fillInStackTrace", "(I)Ljava/lang/Throwable;"⟩ ⟨"java/lang/Throwable", "fillInStackTrace", "(I)Ljava/lang/Throwable;"⟩) ∈ tbg := tb_in (List.mem_of_getElem? (i := 373) (by decide +kernel)) rfl
theorem wm374 : (Cond.lays "java/lang/IllegalArgumentException" "java/lang/Throwable" "cause" "Ljava/lang/Throwable;") ∈ tbg := tb_in (List.mem_of_getElem? (i := 374) (by decide +kernel)) rfl
theorem wm375 : (Cond.lays "java/lang/IllegalArgumentException" "java/lang/Throwable" "stackTrace" "[Ljava/lang/StackTraceElement;") ∈ tbg := tb_in (List.mem_of_getElem? (i := 375) (by decide +kernel)) rfl
theorem wm376 : (Cond.lays "java/lang/IllegalArgumentException" "java/lang/Throwable" "suppressedExceptions" "Ljava/util/List;") ∈ tbg := tb_in (List.mem_of_getElem? (i := 376) (by decide +kernel)) rfl
theorem wm377 : (Cond.lays "java/lang/IllegalArgumentException" "java/lang/Throwable" "detailMessage" "Ljava/lang/String;") ∈ tbg := tb_in (List.mem_of_getElem? (i := 377) (by decide +kernel)) rfl
theorem wm378 : (Cond.lays "java/lang/IllegalArgumentException" "java/lang/Throwable" "backtrace" "Ljava/lang/Object;") ∈ tbg := tb_in (List.mem_of_getElem? (i := 378) (by decide +kernel)) rfl
theorem wm380 : (Cond.methodLink "MetreFractions" 92 ⟨"java/lang/IllegalArgumentException", "<init>", "(Ljava/lang/String;)V"⟩) ∈ tbg := tb_in (List.mem_of_getElem? (i := 380) (by decide +kernel)) rfl
theorem wm381 : (Cond.instanceMethod ⟨"java/lang/IllegalArgumentException", "<init>", "(Ljava/lang/String;)V"⟩) ∈ tbg := tb_in (List.mem_of_getElem? (i := 381) (by decide +kernel)) rfl
set_option maxRecDepth 100000 in
theorem wm382 : (Cond.code ⟨"java/lang/IllegalArgumentException", "<init>", "(Ljava/lang/String;)V"⟩ prog_15_method_2_code 2 (Option.none : Option Jvm.ClassFile.FieldType)) ∈ tbg := tb_in (List.mem_of_getElem? (i := 382) (rfl)) rfl
theorem wm383 : (Cond.methodLink "java/lang/IllegalArgumentException" 7 ⟨"java/lang/RuntimeException", "<init>", "(Ljava/lang/String;)V"⟩) ∈ tbg := tb_in (List.mem_of_getElem? (i := 383) (by decide +kernel)) rfl
theorem wm384 : (Cond.lays "java/lang/IllegalArgumentException" "java/lang/Throwable" "depth" "I") ∈ tbg := tb_in (List.mem_of_getElem? (i := 384) (by decide +kernel)) rfl
theorem wm386 : (Cond.methodLink "MetreFractions" 93 ⟨"MetreFractions", "isFull", "()Z"⟩) ∈ tbg := tb_in (List.mem_of_getElem? (i := 386) (by decide +kernel)) rfl
theorem wm388 : (Cond.instanceMethod ⟨"MetreFractions", "isFull", "()Z"⟩) ∈ tbg := tb_in (List.mem_of_getElem? (i := 388) (by decide +kernel)) rfl
set_option maxRecDepth 100000 in
theorem wm389 : (Cond.code ⟨"MetreFractions", "isFull", "()Z"⟩ prog_1_method_20_code 1 (Option.some .boolean)) ∈ tbg := tb_in (List.mem_of_getElem? (i := 389) (rfl)) rfl
theorem wm390 : (Cond.methodLink "MetreFractions" 97 ⟨"MetreFractions$Calculator", "setRatio", "(LMetreFractions$Fraction;JJ)V"⟩) ∈ tbg := tb_in (List.mem_of_getElem? (i := 390) (by decide +kernel)) rfl
theorem wm391 : (Cond.instanceMethod ⟨"MetreFractions$Calculator", "setRatio", "(LMetreFractions$Fraction;JJ)V"⟩) ∈ tbg := tb_in (List.mem_of_getElem? (i := 391) (by decide +kernel)) rfl
theorem wm392 : (Cond.selects "MetreFractions$Calculator" ⟨"MetreFractions$Calculator", "setRatio", "(LMetreFractions$Fraction;JJ)V"⟩ ⟨"MetreFractions$Calculator", "setRatio", "(LMetreFractions$Fraction;JJ)V"⟩) ∈ tbg := tb_in (List.mem_of_getElem? (i := 392) (by decide +kernel)) rfl
set_option maxRecDepth 100000 in
theorem wm393 : (Cond.code ⟨"MetreFractions$Calculator", "setRatio", "(LMetreFractions$Fraction;JJ)V"⟩ prog_2_method_2_code 6 (Option.none : Option Jvm.ClassFile.FieldType)) ∈ tbg := tb_in (List.mem_of_getElem? (i := 393) (rfl)) rfl
theorem wm394 : (Cond.methodLink "MetreFractions$Calculator" 51 ⟨"MetreFractions$Natural", "setMagnitude", "(J)V"⟩) ∈ tbg := tb_in (List.mem_of_getElem? (i := 394) (by decide +kernel)) rfl
theorem wm395 : (Cond.methodLink "MetreFractions$Calculator" 61 ⟨"MetreFractions$Calculator", "setReduced", "(LMetreFractions$Fraction;LMetreFractions$Natural;LMetreFractions$Natural;)V"⟩) ∈ tbg := tb_in (List.mem_of_getElem? (i := 395) (by decide +kernel)) rfl
theorem wm397 : (Cond.instanceMethod ⟨"MetreFractions$Calculator", "setReduced", "(LMetreFractions$Fraction;LMetreFractions$Natural;LMetreFractions$Natural;)V"⟩) ∈ tbg := tb_in (List.mem_of_getElem? (i := 397) (by decide +kernel)) rfl
set_option maxRecDepth 100000 in
theorem wm398 : (Cond.code ⟨"MetreFractions$Calculator", "setReduced", "(LMetreFractions$Fraction;LMetreFractions$Natural;LMetreFractions$Natural;)V"⟩ prog_2_method_7_code 5 (Option.none : Option Jvm.ClassFile.FieldType)) ∈ tbg := tb_in (List.mem_of_getElem? (i := 398) (rfl)) rfl
theorem wm399 : (Cond.methodLink "MetreFractions$Calculator" 68 ⟨"MetreFractions$CommonDivisor", "find", "(LMetreFractions$Natural;LMetreFractions$Natural;)LMetreFractions$Natural;"⟩) ∈ tbg := tb_in (List.mem_of_getElem? (i := 399) (by decide +kernel)) rfl
theorem wm400 : (Cond.instanceMethod ⟨"MetreFractions$CommonDivisor", "find", "(LMetreFractions$Natural;LMetreFractions$Natural;)LMetreFractions$Natural;"⟩) ∈ tbg := tb_in (List.mem_of_getElem? (i := 400) (by decide +kernel)) rfl
theorem wm401 : (Cond.selects "MetreFractions$CommonDivisor" ⟨"MetreFractions$CommonDivisor", "find", "(LMetreFractions$Natural;LMetreFractions$Natural;)LMetreFractions$Natural;"⟩ ⟨"MetreFractions$CommonDivisor", "find", "(LMetreFractions$Natural;LMetreFractions$Natural;)LMetreFractions$Natural;"⟩) ∈ tbg := tb_in (List.mem_of_getElem? (i := 401) (by decide +kernel)) rfl
set_option maxRecDepth 100000 in
theorem wm402 : (Cond.code ⟨"MetreFractions$CommonDivisor", "find", "(LMetreFractions$Natural;LMetreFractions$Natural;)LMetreFractions$Natural;"⟩ prog_3_method_2_code 5 (Option.some (.object "MetreFractions$Natural"))) ∈ tbg := tb_in (List.mem_of_getElem? (i := 402) (rfl)) rfl
theorem wm403 : (Cond.methodLink "MetreFractions$CommonDivisor" 27 ⟨"MetreFractions$Natural", "compare", "(LMetreFractions$Natural;)I"⟩) ∈ tbg := tb_in (List.mem_of_getElem? (i := 403) (by decide +kernel)) rfl
theorem wm404 : (Cond.instanceMethod ⟨"MetreFractions$Natural", "compare", "(LMetreFractions$Natural;)I"⟩) ∈ tbg := tb_in (List.mem_of_getElem? (i := 404) (by decide +kernel)) rfl
theorem wm405 : (Cond.selects "MetreFractions$Natural" ⟨"MetreFractions$Natural", "compare", "(LMetreFractions$Natural;)I"⟩ ⟨"MetreFractions$Natural", "compare", "(LMetreFractions$Natural;)I"⟩) ∈ tbg := tb_in (List.mem_of_getElem? (i := 405) (by decide +kernel)) rfl
set_option maxRecDepth 100000 in
theorem wm406 : (Cond.code ⟨"MetreFractions$Natural", "compare", "(LMetreFractions$Natural;)I"⟩ prog_6_method_8_code 3 (Option.some .int)) ∈ tbg := tb_in (List.mem_of_getElem? (i := 406) (rfl)) rfl
theorem wm407 : (Cond.methodLink "MetreFractions$CommonDivisor" 31 ⟨"MetreFractions$Natural", "setTo", "(LMetreFractions$Natural;)V"⟩) ∈ tbg := tb_in (List.mem_of_getElem? (i := 407) (by decide +kernel)) rfl
theorem wm408 : (Cond.instanceMethod ⟨"MetreFractions$Natural", "setTo", "(LMetreFractions$Natural;)V"⟩) ∈ tbg := tb_in (List.mem_of_getElem? (i := 408) (by decide +kernel)) rfl
theorem wm409 : (Cond.selects "MetreFractions$Natural" ⟨"MetreFractions$Natural", "setTo", "(LMetreFractions$Natural;)V"⟩ ⟨"MetreFractions$Natural", "setTo", "(LMetreFractions$Natural;)V"⟩) ∈ tbg := tb_in (List.mem_of_getElem? (i := 409) (by decide +kernel)) rfl
set_option maxRecDepth 100000 in
theorem wm410 : (Cond.code ⟨"MetreFractions$Natural", "setTo", "(LMetreFractions$Natural;)V"⟩ prog_6_method_13_code 2 (Option.none : Option Jvm.ClassFile.FieldType)) ∈ tbg := tb_in (List.mem_of_getElem? (i := 410) (rfl)) rfl
theorem wm411 : (Cond.methodLink "MetreFractions$Natural" 47 ⟨"java/lang/System", "arraycopy", "(Ljava/lang/Object;ILjava/lang/Object;II)V"⟩) ∈ tbg := tb_in (List.mem_of_getElem? (i := 411) (by decide +kernel)) rfl
theorem wm412 : (Cond.constant "MetreFractions$CommonDivisor" 35 1000000) ∈ tbg := tb_in (List.mem_of_getElem? (i := 412) (by decide +kernel)) rfl
theorem wm413 : (Cond.methodLink "MetreFractions$CommonDivisor" 40 ⟨"MetreFractions$CommonDivisor", "findFactors", "()Z"⟩) ∈ tbg := tb_in (List.mem_of_getElem? (i := 413) (by decide +kernel)) rfl
theorem wm415 : (Cond.instanceMethod ⟨"MetreFractions$CommonDivisor", "findFactors", "()Z"⟩) ∈ tbg := tb_in (List.mem_of_getElem? (i := 415) (by decide +kernel)) rfl
set_option maxRecDepth 100000 in
theorem wm416 : (Cond.code ⟨"MetreFractions$CommonDivisor", "findFactors", "()Z"⟩ prog_3_method_4_code 15 (Option.some .boolean)) ∈ tbg := tb_in (List.mem_of_getElem? (i := 416) (rfl)) rfl
theorem wm417 : (Cond.methodLink "MetreFractions$CommonDivisor" 68 ⟨"MetreFractions$Natural", "limb", "(I)I"⟩) ∈ tbg := tb_in (List.mem_of_getElem? (i := 417) (by decide +kernel)) rfl
theorem wm418 : (Cond.instanceMethod ⟨"MetreFractions$Natural", "limb", "(I)I"⟩) ∈ tbg := tb_in (List.mem_of_getElem? (i := 418) (by decide +kernel)) rfl
theorem wm419 : (Cond.selects "MetreFractions$Natural" ⟨"MetreFractions$Natural", "limb", "(I)I"⟩ ⟨"MetreFractions$Natural", "limb", "(I)I"⟩) ∈ tbg := tb_in (List.mem_of_getElem? (i := 419) (by decide +kernel)) rfl
set_option maxRecDepth 100000 in
theorem wm420 : (Cond.code ⟨"MetreFractions$Natural", "limb", "(I)I"⟩ prog_6_method_5_code 2 (Option.some .int)) ∈ tbg := tb_in (List.mem_of_getElem? (i := 420) (rfl)) rfl
theorem wm421 : (Cond.methodLink "MetreFractions$CommonDivisor" 72 ⟨"MetreFractions$Natural", "digitsOfLimb", "(I)I"⟩) ∈ tbg := tb_in (List.mem_of_getElem? (i := 421) (by decide +kernel)) rfl
theorem wm422 : (Cond.static ⟨"MetreFractions$Natural", "digitsOfLimb", "(I)I"⟩) ∈ tbg := tb_in (List.mem_of_getElem? (i := 422) (by decide +kernel)) rfl
set_option maxRecDepth 100000 in
theorem wm423 : (Cond.code ⟨"MetreFractions$Natural", "digitsOfLimb", "(I)I"⟩ prog_6_method_11_code 2 (Option.some .int)) ∈ tbg := tb_in (List.mem_of_getElem? (i := 423) (rfl)) rfl
theorem wm426 : (Cond.methodLink "MetreFractions$CommonDivisor" 75 ⟨"MetreFractions$Natural", "leading", "(II)J"⟩) ∈ tbg := tb_in (List.mem_of_getElem? (i := 426) (by decide +kernel)) rfl
theorem wm427 : (Cond.instanceMethod ⟨"MetreFractions$Natural", "leading", "(II)J"⟩) ∈ tbg := tb_in (List.mem_of_getElem? (i := 427) (by decide +kernel)) rfl
theorem wm428 : (Cond.selects "MetreFractions$Natural" ⟨"MetreFractions$Natural", "leading", "(II)J"⟩ ⟨"MetreFractions$Natural", "leading", "(II)J"⟩) ∈ tbg := tb_in (List.mem_of_getElem? (i := 428) (by decide +kernel)) rfl
set_option maxRecDepth 100000 in
theorem wm429 : (Cond.code ⟨"MetreFractions$Natural", "leading", "(II)J"⟩ prog_6_method_12_code 5 (Option.some .long)) ∈ tbg := tb_in (List.mem_of_getElem? (i := 429) (rfl)) rfl
theorem wm430 : (Cond.methodLink "MetreFractions$Natural" 35 ⟨"MetreFractions$Natural", "limb", "(I)I"⟩) ∈ tbg := tb_in (List.mem_of_getElem? (i := 430) (by decide +kernel)) rfl
theorem wm431 : (Cond.constantLong "MetreFractions$CommonDivisor" 92 2000000000) ∈ tbg := tb_in (List.mem_of_getElem? (i := 431) (by decide +kernel)) rfl
theorem wm432 : (Cond.methodLink "MetreFractions$CommonDivisor" 94 ⟨"java/lang/Math", "abs", "(J)J"⟩) ∈ tbg := tb_in (List.mem_of_getElem? (i := 432) (by decide +kernel)) rfl
theorem wm433 : (Cond.methodLink "MetreFractions$CommonDivisor" 44 ⟨"MetreFractions$CommonDivisor", "useFactors", "()V"⟩) ∈ tbg := tb_in (List.mem_of_getElem? (i := 433) (by decide +kernel)) rfl
theorem wm435 : (Cond.instanceMethod ⟨"MetreFractions$CommonDivisor", "useFactors", "()V"⟩) ∈ tbg := tb_in (List.mem_of_getElem? (i := 435) (by decide +kernel)) rfl
set_option maxRecDepth 100000 in
theorem wm436 : (Cond.code ⟨"MetreFractions$CommonDivisor", "useFactors", "()V"⟩ prog_3_method_5_code 15 (Option.none : Option Jvm.ClassFile.FieldType)) ∈ tbg := tb_in (List.mem_of_getElem? (i := 436) (rfl)) rfl
theorem wm437 : (Cond.methodLink "MetreFractions$CommonDivisor" 100 ⟨"MetreFractions$Natural", "widen", "(I)V"⟩) ∈ tbg := tb_in (List.mem_of_getElem? (i := 437) (by decide +kernel)) rfl
theorem wm438 : (Cond.instanceMethod ⟨"MetreFractions$Natural", "widen", "(I)V"⟩) ∈ tbg := tb_in (List.mem_of_getElem? (i := 438) (by decide +kernel)) rfl
theorem wm439 : (Cond.selects "MetreFractions$Natural" ⟨"MetreFractions$Natural", "widen", "(I)V"⟩ ⟨"MetreFractions$Natural", "widen", "(I)V"⟩) ∈ tbg := tb_in (List.mem_of_getElem? (i := 439) (by decide +kernel)) rfl
set_option maxRecDepth 100000 in
theorem wm440 : (Cond.code ⟨"MetreFractions$Natural", "widen", "(I)V"⟩ prog_6_method_3_code 3 (Option.none : Option Jvm.ClassFile.FieldType)) ∈ tbg := tb_in (List.mem_of_getElem? (i := 440) (rfl)) rfl
theorem wm441 : (Cond.constantLong "MetreFractions$CommonDivisor" 107 1000000000) ∈ tbg := tb_in (List.mem_of_getElem? (i := 441) (by decide +kernel)) rfl
theorem wm442 : (Cond.methodLink "MetreFractions$CommonDivisor" 109 ⟨"java/lang/Math", "floorDiv", "(JJ)J"⟩) ∈ tbg := tb_in (List.mem_of_getElem? (i := 442) (by decide +kernel)) rfl
theorem wm443 : (Cond.static ⟨"java/lang/Math", "floorDiv", "(JJ)J"⟩) ∈ tbg := tb_in (List.mem_of_getElem? (i := 443) (by decide +kernel)) rfl
set_option maxRecDepth 100000 in
theorem wm444 : (Cond.code ⟨"java/lang/Math", "floorDiv", "(JJ)J"⟩ prog_17_method_49_code 6 (Option.some .long)) ∈ tbg := tb_in (List.mem_of_getElem? (i := 444) (rfl)) rfl
theorem wm445 : (Cond.methodLink "MetreFractions$CommonDivisor" 112 ⟨"MetreFractions$Natural", "trim", "()V"⟩) ∈ tbg := tb_in (List.mem_of_getElem? (i := 445) (by decide +kernel)) rfl
theorem wm446 : (Cond.methodLink "MetreFractions$CommonDivisor" 47 ⟨"MetreFractions$Divider", "divide", "(LMetreFractions$Natural;LMetreFractions$Natural;)V"⟩) ∈ tbg := tb_in (List.mem_of_getElem? (i := 446) (by decide +kernel)) rfl
theorem wm447 : (Cond.instanceMethod ⟨"MetreFractions$Divider", "divide", "(LMetreFractions$Natural;LMetreFractions$Natural;)V"⟩) ∈ tbg := tb_in (List.mem_of_getElem? (i := 447) (by decide +kernel)) rfl
theorem wm448 : (Cond.selects "MetreFractions$Divider" ⟨"MetreFractions$Divider", "divide", "(LMetreFractions$Natural;LMetreFractions$Natural;)V"⟩ ⟨"MetreFractions$Divider", "divide", "(LMetreFractions$Natural;LMetreFractions$Natural;)V"⟩) ∈ tbg := tb_in (List.mem_of_getElem? (i := 448) (by decide +kernel)) rfl
set_option maxRecDepth 100000 in
theorem wm449 : (Cond.code ⟨"MetreFractions$Divider", "divide", "(LMetreFractions$Natural;LMetreFractions$Natural;)V"⟩ prog_4_method_2_code 5 (Option.none : Option Jvm.ClassFile.FieldType)) ∈ tbg := tb_in (List.mem_of_getElem? (i := 449) (rfl)) rfl
theorem wm450 : (Cond.methodLink "MetreFractions$Divider" 30 ⟨"MetreFractions$Natural", "limb", "(I)I"⟩) ∈ tbg := tb_in (List.mem_of_getElem? (i := 450) (by decide +kernel)) rfl
theorem wm451 : (Cond.methodLink "MetreFractions$Divider" 34 ⟨"MetreFractions$Natural", "compare", "(LMetreFractions$Natural;)I"⟩) ∈ tbg := tb_in (List.mem_of_getElem? (i := 451) (by decide +kernel)) rfl
theorem wm452 : (Cond.methodLink "MetreFractions$Divider" 38 ⟨"MetreFractions$Natural", "setTo", "(LMetreFractions$Natural;)V"⟩) ∈ tbg := tb_in (List.mem_of_getElem? (i := 452) (by decide +kernel)) rfl
theorem wm453 : (Cond.methodLink "MetreFractions$Divider" 42 ⟨"MetreFractions$Natural", "reduce", "(I)J"⟩) ∈ tbg := tb_in (List.mem_of_getElem? (i := 453) (by decide +kernel)) rfl
theorem wm454 : (Cond.instanceMethod ⟨"MetreFractions$Natural", "reduce", "(I)J"⟩) ∈ tbg := tb_in (List.mem_of_getElem? (i := 454) (by decide +kernel)) rfl
theorem wm455 : (Cond.selects "MetreFractions$Natural" ⟨"MetreFractions$Natural", "reduce", "(I)J"⟩ ⟨"MetreFractions$Natural", "reduce", "(I)J"⟩) ∈ tbg := tb_in (List.mem_of_getElem? (i := 455) (by decide +kernel)) rfl
set_option maxRecDepth 100000 in
theorem wm456 : (Cond.code ⟨"MetreFractions$Natural", "reduce", "(I)J"⟩ prog_6_method_20_code 7 (Option.some .long)) ∈ tbg := tb_in (List.mem_of_getElem? (i := 456) (rfl)) rfl
theorem wm457 : (Cond.methodLink "MetreFractions$Divider" 46 ⟨"MetreFractions$Natural", "setMagnitude", "(J)V"⟩) ∈ tbg := tb_in (List.mem_of_getElem? (i := 457) (by decide +kernel)) rfl
theorem wm458 : (Cond.constantLong "MetreFractions$Divider" 50 1000000000) ∈ tbg := tb_in (List.mem_of_getElem? (i := 458) (by decide +kernel)) rfl
theorem wm459 : (Cond.methodLink "MetreFractions$Divider" 52 ⟨"MetreFractions$Natural", "setScaled", "(LMetreFractions$Natural;I)V"⟩) ∈ tbg := tb_in (List.mem_of_getElem? (i := 459) (by decide +kernel)) rfl
theorem wm460 : (Cond.instanceMethod ⟨"MetreFractions$Natural", "setScaled", "(LMetreFractions$Natural;I)V"⟩) ∈ tbg := tb_in (List.mem_of_getElem? (i := 460) (by decide +kernel)) rfl
theorem wm461 : (Cond.selects "MetreFractions$Natural" ⟨"MetreFractions$Natural", "setScaled", "(LMetreFractions$Natural;I)V"⟩ ⟨"MetreFractions$Natural", "setScaled", "(LMetreFractions$Natural;I)V"⟩) ∈ tbg := tb_in (List.mem_of_getElem? (i := 461) (by decide +kernel)) rfl
set_option maxRecDepth 100000 in
theorem wm462 : (Cond.code ⟨"MetreFractions$Natural", "setScaled", "(LMetreFractions$Natural;I)V"⟩ prog_6_method_18_code 8 (Option.none : Option Jvm.ClassFile.FieldType)) ∈ tbg := tb_in (List.mem_of_getElem? (i := 462) (rfl)) rfl
theorem wm463 : (Cond.methodLink "MetreFractions$Divider" 56 ⟨"MetreFractions$Divider", "divideScaled", "(I)V"⟩) ∈ tbg := tb_in (List.mem_of_getElem? (i := 463) (by decide +kernel)) rfl
theorem wm465 : (Cond.instanceMethod ⟨"MetreFractions$Divider", "divideScaled", "(I)V"⟩) ∈ tbg := tb_in (List.mem_of_getElem? (i := 465) (by decide +kernel)) rfl
set_option maxRecDepth 100000 in
theorem wm466 : (Cond.code ⟨"MetreFractions$Divider", "divideScaled", "(I)V"⟩ prog_4_method_3_code 5 (Option.none : Option Jvm.ClassFile.FieldType)) ∈ tbg := tb_in (List.mem_of_getElem? (i := 466) (rfl)) rfl
theorem wm467 : (Cond.methodLink "MetreFractions$Divider" 59 ⟨"MetreFractions$Natural", "grow", "(I)V"⟩) ∈ tbg := tb_in (List.mem_of_getElem? (i := 467) (by decide +kernel)) rfl
theorem wm468 : (Cond.methodLink "MetreFractions$Divider" 62 ⟨"MetreFractions$Divider", "guessLimb", "(I)I"⟩) ∈ tbg := tb_in (List.mem_of_getElem? (i := 468) (by decide +kernel)) rfl
theorem wm470 : (Cond.instanceMethod ⟨"MetreFractions$Divider", "guessLimb", "(I)I"⟩) ∈ tbg := tb_in (List.mem_of_getElem? (i := 470) (by decide +kernel)) rfl
set_option maxRecDepth 100000 in
theorem wm471 : (Cond.code ⟨"MetreFractions$Divider", "guessLimb", "(I)I"⟩ prog_4_method_4_code 13 (Option.some .int)) ∈ tbg := tb_in (List.mem_of_getElem? (i := 471) (rfl)) rfl
theorem wm472 : (Cond.methodLink "MetreFractions$Divider" 65 ⟨"MetreFractions$Divider", "subtract", "(IJ)Z"⟩) ∈ tbg := tb_in (List.mem_of_getElem? (i := 472) (by decide +kernel)) rfl
theorem wm474 : (Cond.instanceMethod ⟨"MetreFractions$Divider", "subtract", "(IJ)Z"⟩) ∈ tbg := tb_in (List.mem_of_getElem? (i := 474) (by decide +kernel)) rfl
set_option maxRecDepth 100000 in
theorem wm475 : (Cond.code ⟨"MetreFractions$Divider", "subtract", "(IJ)Z"⟩ prog_4_method_5_code 11 (Option.some .boolean)) ∈ tbg := tb_in (List.mem_of_getElem? (i := 475) (rfl)) rfl
theorem wm476 : (Cond.methodLink "MetreFractions$Divider" 69 ⟨"MetreFractions$Divider", "giveBack", "(I)V"⟩) ∈ tbg := tb_in (List.mem_of_getElem? (i := 476) (by decide +kernel)) rfl
theorem wm478 : (Cond.instanceMethod ⟨"MetreFractions$Divider", "giveBack", "(I)V"⟩) ∈ tbg := tb_in (List.mem_of_getElem? (i := 478) (by decide +kernel)) rfl
set_option maxRecDepth 100000 in
theorem wm479 : (Cond.code ⟨"MetreFractions$Divider", "giveBack", "(I)V"⟩ prog_4_method_6_code 7 (Option.none : Option Jvm.ClassFile.FieldType)) ∈ tbg := tb_in (List.mem_of_getElem? (i := 479) (rfl)) rfl
theorem wm480 : (Cond.methodLink "MetreFractions$Divider" 76 ⟨"MetreFractions$Natural", "trim", "()V"⟩) ∈ tbg := tb_in (List.mem_of_getElem? (i := 480) (by decide +kernel)) rfl
theorem wm481 : (Cond.methodLink "MetreFractions$CommonDivisor" 56 ⟨"MetreFractions$Natural", "lowTwo", "()J"⟩) ∈ tbg := tb_in (List.mem_of_getElem? (i := 481) (by decide +kernel)) rfl
theorem wm482 : (Cond.instanceMethod ⟨"MetreFractions$Natural", "lowTwo", "()J"⟩) ∈ tbg := tb_in (List.mem_of_getElem? (i := 482) (by decide +kernel)) rfl
theorem wm483 : (Cond.selects "MetreFractions$Natural" ⟨"MetreFractions$Natural", "lowTwo", "()J"⟩ ⟨"MetreFractions$Natural", "lowTwo", "()J"⟩) ∈ tbg := tb_in (List.mem_of_getElem? (i := 483) (by decide +kernel)) rfl
set_option maxRecDepth 100000 in
theorem wm484 : (Cond.code ⟨"MetreFractions$Natural", "lowTwo", "()J"⟩ prog_6_method_6_code 1 (Option.some .long)) ∈ tbg := tb_in (List.mem_of_getElem? (i := 484) (rfl)) rfl
theorem wm485 : (Cond.methodLink "MetreFractions$CommonDivisor" 60 ⟨"MetreFractions$CommonDivisor", "findShort", "(JJ)J"⟩) ∈ tbg := tb_in (List.mem_of_getElem? (i := 485) (by decide +kernel)) rfl
theorem wm486 : (Cond.static ⟨"MetreFractions$CommonDivisor", "findShort", "(JJ)J"⟩) ∈ tbg := tb_in (List.mem_of_getElem? (i := 486) (by decide +kernel)) rfl
set_option maxRecDepth 100000 in
theorem wm487 : (Cond.code ⟨"MetreFractions$CommonDivisor", "findShort", "(JJ)J"⟩ prog_3_method_3_code 11 (Option.some .long)) ∈ tbg := tb_in (List.mem_of_getElem? (i := 487) (rfl)) rfl
theorem wm488 : (Cond.methodLink "MetreFractions$CommonDivisor" 64 ⟨"MetreFractions$Natural", "setMagnitude", "(J)V"⟩) ∈ tbg := tb_in (List.mem_of_getElem? (i := 488) (by decide +kernel)) rfl
theorem wm489 : (Cond.methodLink "MetreFractions$Calculator" 76 ⟨"MetreFractions$Calculator", "setQuotient", "(LMetreFractions$Natural;LMetreFractions$Natural;LMetreFractions$Natural;)V"⟩) ∈ tbg := tb_in (List.mem_of_getElem? (i := 489) (by decide +kernel)) rfl
theorem wm491 : (Cond.instanceMethod ⟨"MetreFractions$Calculator", "setQuotient", "(LMetreFractions$Natural;LMetreFractions$Natural;LMetreFractions$Natural;)V"⟩) ∈ tbg := tb_in (List.mem_of_getElem? (i := 491) (by decide +kernel)) rfl
set_option maxRecDepth 100000 in
theorem wm492 : (Cond.code ⟨"MetreFractions$Calculator", "setQuotient", "(LMetreFractions$Natural;LMetreFractions$Natural;LMetreFractions$Natural;)V"⟩ prog_2_method_8_code 4 (Option.none : Option Jvm.ClassFile.FieldType)) ∈ tbg := tb_in (List.mem_of_getElem? (i := 492) (rfl)) rfl
theorem wm493 : (Cond.methodLink "MetreFractions$Calculator" 91 ⟨"MetreFractions$Divider", "divide", "(LMetreFractions$Natural;LMetreFractions$Natural;)V"⟩) ∈ tbg := tb_in (List.mem_of_getElem? (i := 493) (by decide +kernel)) rfl
theorem wm494 : (Cond.methodLink "MetreFractions$Calculator" 72 ⟨"MetreFractions$Natural", "setTo", "(LMetreFractions$Natural;)V"⟩) ∈ tbg := tb_in (List.mem_of_getElem? (i := 494) (by decide +kernel)) rfl
theorem wm495 : (Cond.methodLink "MetreFractions" 101 ⟨"MetreFractions", "keep", "(LMetreFractions$Fraction;I)I"⟩) ∈ tbg := tb_in (List.mem_of_getElem? (i := 495) (by decide +kernel)) rfl
theorem wm497 : (Cond.instanceMethod ⟨"MetreFractions", "keep", "(LMetreFractions$Fraction;I)I"⟩) ∈ tbg := tb_in (List.mem_of_getElem? (i := 497) (by decide +kernel)) rfl
set_option maxRecDepth 100000 in
theorem wm498 : (Cond.code ⟨"MetreFractions", "keep", "(LMetreFractions$Fraction;I)I"⟩ prog_1_method_23_code 3 (Option.some .int)) ∈ tbg := tb_in (List.mem_of_getElem? (i := 498) (rfl)) rfl
theorem wm499 : (Cond.methodLink "MetreFractions" 197 ⟨"MetreFractions$Fraction", "isLong", "()Z"⟩) ∈ tbg := tb_in (List.mem_of_getElem? (i := 499) (by decide +kernel)) rfl
theorem wm500 : (Cond.instanceMethod ⟨"MetreFractions$Fraction", "isLong", "()Z"⟩) ∈ tbg := tb_in (List.mem_of_getElem? (i := 500) (by decide +kernel)) rfl
theorem wm501 : (Cond.selects "MetreFractions$Fraction" ⟨"MetreFractions$Fraction", "isLong", "()Z"⟩ ⟨"MetreFractions$Fraction", "isLong", "()Z"⟩) ∈ tbg := tb_in (List.mem_of_getElem? (i := 501) (by decide +kernel)) rfl
set_option maxRecDepth 100000 in
theorem wm502 : (Cond.code ⟨"MetreFractions$Fraction", "isLong", "()Z"⟩ prog_5_method_5_code 1 (Option.some .boolean)) ∈ tbg := tb_in (List.mem_of_getElem? (i := 502) (rfl)) rfl
theorem wm503 : (Cond.methodLink "MetreFractions$Fraction" 44 ⟨"MetreFractions$Natural", "digits", "()I"⟩) ∈ tbg := tb_in (List.mem_of_getElem? (i := 503) (by decide +kernel)) rfl
theorem wm504 : (Cond.instanceMethod ⟨"MetreFractions$Natural", "digits", "()I"⟩) ∈ tbg := tb_in (List.mem_of_getElem? (i := 504) (by decide +kernel)) rfl
theorem wm505 : (Cond.selects "MetreFractions$Natural" ⟨"MetreFractions$Natural", "digits", "()I"⟩ ⟨"MetreFractions$Natural", "digits", "()I"⟩) ∈ tbg := tb_in (List.mem_of_getElem? (i := 505) (by decide +kernel)) rfl
set_option maxRecDepth 100000 in
theorem wm506 : (Cond.code ⟨"MetreFractions$Natural", "digits", "()I"⟩ prog_6_method_9_code 1 (Option.some .int)) ∈ tbg := tb_in (List.mem_of_getElem? (i := 506) (rfl)) rfl
theorem wm507 : (Cond.methodLink "MetreFractions$Natural" 41 ⟨"MetreFractions$Natural", "digitsOfLimb", "(I)I"⟩) ∈ tbg := tb_in (List.mem_of_getElem? (i := 507) (by decide +kernel)) rfl
theorem wm508 : (Cond.instantiable "MetreFractions$Value" 2) ∈ tbg := tb_in (List.mem_of_getElem? (i := 508) (by decide +kernel)) rfl
theorem wm509 : (Cond.methodLink "MetreFractions" 220 ⟨"MetreFractions$Fraction", "copy", "()LMetreFractions$Fraction;"⟩) ∈ tbg := tb_in (List.mem_of_getElem? (i := 509) (by decide +kernel)) rfl
theorem wm510 : (Cond.instanceMethod ⟨"MetreFractions$Fraction", "copy", "()LMetreFractions$Fraction;"⟩) ∈ tbg := tb_in (List.mem_of_getElem? (i := 510) (by decide +kernel)) rfl
theorem wm511 : (Cond.selects "MetreFractions$Fraction" ⟨"MetreFractions$Fraction", "copy", "()LMetreFractions$Fraction;"⟩ ⟨"MetreFractions$Fraction", "copy", "()LMetreFractions$Fraction;"⟩) ∈ tbg := tb_in (List.mem_of_getElem? (i := 511) (by decide +kernel)) rfl
set_option maxRecDepth 100000 in
theorem wm512 : (Cond.code ⟨"MetreFractions$Fraction", "copy", "()LMetreFractions$Fraction;"⟩ prog_5_method_4_code 2 (Option.some (.object "MetreFractions$Fraction"))) ∈ tbg := tb_in (List.mem_of_getElem? (i := 512) (rfl)) rfl
theorem wm513 : (Cond.methodLink "MetreFractions$Fraction" 41 ⟨"MetreFractions$Fraction", "setTo", "(LMetreFractions$Fraction;)V"⟩) ∈ tbg := tb_in (List.mem_of_getElem? (i := 513) (by decide +kernel)) rfl
theorem wm514 : (Cond.instanceMethod ⟨"MetreFractions$Fraction", "setTo", "(LMetreFractions$Fraction;)V"⟩) ∈ tbg := tb_in (List.mem_of_getElem? (i := 514) (by decide +kernel)) rfl
theorem wm515 : (Cond.selects "MetreFractions$Fraction" ⟨"MetreFractions$Fraction", "setTo", "(LMetreFractions$Fraction;)V"⟩ ⟨"MetreFractions$Fraction", "setTo", "(LMetreFractions$Fraction;)V"⟩) ∈ tbg := tb_in (List.mem_of_getElem? (i := 515) (by decide +kernel)) rfl
set_option maxRecDepth 100000 in
theorem wm516 : (Cond.code ⟨"MetreFractions$Fraction", "setTo", "(LMetreFractions$Fraction;)V"⟩ prog_5_method_3_code 2 (Option.none : Option Jvm.ClassFile.FieldType)) ∈ tbg := tb_in (List.mem_of_getElem? (i := 516) (rfl)) rfl
theorem wm517 : (Cond.methodLink "MetreFractions$Fraction" 34 ⟨"MetreFractions$Natural", "setTo", "(LMetreFractions$Natural;)V"⟩) ∈ tbg := tb_in (List.mem_of_getElem? (i := 517) (by decide +kernel)) rfl
theorem wm518 : (Cond.methodLink "MetreFractions" 224 ⟨"MetreFractions$Value", "<init>", "(LMetreFractions$Fraction;I)V"⟩) ∈ tbg := tb_in (List.mem_of_getElem? (i := 518) (by decide +kernel)) rfl
theorem wm519 : (Cond.instanceMethod ⟨"MetreFractions$Value", "<init>", "(LMetreFractions$Fraction;I)V"⟩) ∈ tbg := tb_in (List.mem_of_getElem? (i := 519) (by decide +kernel)) rfl
set_option maxRecDepth 100000 in
theorem wm520 : (Cond.code ⟨"MetreFractions$Value", "<init>", "(LMetreFractions$Fraction;I)V"⟩ prog_8_method_1_code 3 (Option.none : Option Jvm.ClassFile.FieldType)) ∈ tbg := tb_in (List.mem_of_getElem? (i := 520) (rfl)) rfl
theorem wm521 : (Cond.methodLink "MetreFractions$Value" 1 ⟨"java/lang/Object", "<init>", "()V"⟩) ∈ tbg := tb_in (List.mem_of_getElem? (i := 521) (by decide +kernel)) rfl
theorem wm522 : (Cond.fieldLink "MetreFractions$Value" 7 "MetreFractions$Value" "amount" "LMetreFractions$Fraction;") ∈ tbg := tb_in (List.mem_of_getElem? (i := 522) (by decide +kernel)) rfl
theorem wm523 : (Cond.fieldLink "MetreFractions" 112 "MetreFractions$Value" "amount" "LMetreFractions$Fraction;") ∈ tbg := tb_in (List.mem_of_getElem? (i := 523) (by decide +kernel)) rfl
theorem wm524 : (Cond.fieldLink "MetreFractions$Value" 13 "MetreFractions$Value" "unit" "I") ∈ tbg := tb_in (List.mem_of_getElem? (i := 524) (by decide +kernel)) rfl
theorem wm525 : (Cond.fieldLink "MetreFractions" 109 "MetreFractions$Value" "unit" "I") ∈ tbg := tb_in (List.mem_of_getElem? (i := 525) (by decide +kernel)) rfl
theorem wm526 : (Cond.laysFinal "MetreFractions$Value" "MetreFractions$Value" "amount" "LMetreFractions$Fraction;") ∈ tbg := tb_in (List.mem_of_getElem? (i := 526) (by decide +kernel)) rfl
theorem wm528 : (Cond.laysFinal "MetreFractions$Value" "MetreFractions$Value" "unit" "I") ∈ tbg := tb_in (List.mem_of_getElem? (i := 528) (by decide +kernel)) rfl
theorem wm531 : (Cond.methodLink "MetreFractionsLaw" 80 ⟨"MetreFractionsLaw", "add", "(LMetreFractions;IIZ[J)I"⟩) ∈ tbg := tb_in (List.mem_of_getElem? (i := 531) (by decide +kernel)) rfl
theorem wm532 : (Cond.static ⟨"MetreFractionsLaw", "add", "(LMetreFractions;IIZ[J)I"⟩) ∈ tbg := tb_in (List.mem_of_getElem? (i := 532) (by decide +kernel)) rfl
theorem wm534 : (Cond.classLink "MetreFractionsLaw" 21 "java/lang/IndexOutOfBoundsException") ∈ tbg := tb_in (List.mem_of_getElem? (i := 534) (by decide +kernel)) rfl
theorem wm535 : (Cond.methodLink "MetreFractionsLaw" 17 ⟨"MetreFractions", "add", "(IIZ)I"⟩) ∈ tbg := tb_in (List.mem_of_getElem? (i := 535) (by decide +kernel)) rfl
theorem wm536 : (Cond.instanceMethod ⟨"MetreFractions", "add", "(IIZ)I"⟩) ∈ tbg := tb_in (List.mem_of_getElem? (i := 536) (by decide +kernel)) rfl
theorem wm537 : (Cond.selects "MetreFractions" ⟨"MetreFractions", "add", "(IIZ)I"⟩ ⟨"MetreFractions", "add", "(IIZ)I"⟩) ∈ tbg := tb_in (List.mem_of_getElem? (i := 537) (by decide +kernel)) rfl
set_option maxRecDepth 100000 in
theorem wm538 : (Cond.code ⟨"MetreFractions", "add", "(IIZ)I"⟩ prog_1_method_3_code 6 (Option.some .int)) ∈ tbg := tb_in (List.mem_of_getElem? (i := 538) (rfl)) rfl
theorem wm539 : (Cond.methodLink "MetreFractions" 105 ⟨"MetreFractions", "valueOf", "(I)LMetreFractions$Value;"⟩) ∈ tbg := tb_in (List.mem_of_getElem? (i := 539) (by decide +kernel)) rfl
theorem wm541 : (Cond.instanceMethod ⟨"MetreFractions", "valueOf", "(I)LMetreFractions$Value;"⟩) ∈ tbg := tb_in (List.mem_of_getElem? (i := 541) (by decide +kernel)) rfl
set_option maxRecDepth 100000 in
theorem wm542 : (Cond.code ⟨"MetreFractions", "valueOf", "(I)LMetreFractions$Value;"⟩ prog_1_method_21_code 2 (Option.some (.object "MetreFractions$Value"))) ∈ tbg := tb_in (List.mem_of_getElem? (i := 542) (rfl)) rfl
theorem wm543 : (Cond.classLink "MetreFractions" 153 "java/lang/IndexOutOfBoundsException") ∈ tbg := tb_in (List.mem_of_getElem? (i := 543) (by decide +kernel)) rfl
theorem wm544 : (Cond.instantiable "java/lang/IndexOutOfBoundsException" 6) ∈ tbg := tb_in (List.mem_of_getElem? (i := 544) (by decide +kernel)) rfl
theorem wm546 : (Cond.selects "java/lang/IndexOutOfBoundsException" ⟨"java/lang/Throwable", "fillInStackTrace", "(I)Ljava/lang/Throwable;"⟩ ⟨"java/lang/Throwable", "fillInStackTrace", "(I)Ljava/lang/Throwable;"⟩) ∈ tbg := tb_in (List.mem_of_getElem? (i := 546) (by decide +kernel)) rfl
theorem wm547 : (Cond.lays "java/lang/IndexOutOfBoundsException" "java/lang/Throwable" "cause" "Ljava/lang/Throwable;") ∈ tbg := tb_in (List.mem_of_getElem? (i := 547) (by decide +kernel)) rfl
theorem wm548 : (Cond.lays "java/lang/IndexOutOfBoundsException" "java/lang/Throwable" "stackTrace" "[Ljava/lang/StackTraceElement;") ∈ tbg := tb_in (List.mem_of_getElem? (i := 548) (by decide +kernel)) rfl
theorem wm549 : (Cond.lays "java/lang/IndexOutOfBoundsException" "java/lang/Throwable" "suppressedExceptions" "Ljava/util/List;") ∈ tbg := tb_in (List.mem_of_getElem? (i := 549) (by decide +kernel)) rfl
theorem wm550 : (Cond.lays "java/lang/IndexOutOfBoundsException" "java/lang/Throwable" "detailMessage" "Ljava/lang/String;") ∈ tbg := tb_in (List.mem_of_getElem? (i := 550) (by decide +kernel)) rfl
theorem wm551 : (Cond.lays "java/lang/IndexOutOfBoundsException" "java/lang/Throwable" "backtrace" "Ljava/lang/Object;") ∈ tbg := tb_in (List.mem_of_getElem? (i := 551) (by decide +kernel)) rfl
theorem wm553 : (Cond.methodLink "MetreFractions" 157 ⟨"java/lang/IndexOutOfBoundsException", "<init>", "(Ljava/lang/String;)V"⟩) ∈ tbg := tb_in (List.mem_of_getElem? (i := 553) (by decide +kernel)) rfl
theorem wm554 : (Cond.instanceMethod ⟨"java/lang/IndexOutOfBoundsException", "<init>", "(Ljava/lang/String;)V"⟩) ∈ tbg := tb_in (List.mem_of_getElem? (i := 554) (by decide +kernel)) rfl
set_option maxRecDepth 100000 in
theorem wm555 : (Cond.code ⟨"java/lang/IndexOutOfBoundsException", "<init>", "(Ljava/lang/String;)V"⟩ prog_16_method_2_code 2 (Option.none : Option Jvm.ClassFile.FieldType)) ∈ tbg := tb_in (List.mem_of_getElem? (i := 555) (rfl)) rfl
theorem wm556 : (Cond.methodLink "java/lang/IndexOutOfBoundsException" 7 ⟨"java/lang/RuntimeException", "<init>", "(Ljava/lang/String;)V"⟩) ∈ tbg := tb_in (List.mem_of_getElem? (i := 556) (by decide +kernel)) rfl
theorem wm557 : (Cond.lays "java/lang/IndexOutOfBoundsException" "java/lang/Throwable" "depth" "I") ∈ tbg := tb_in (List.mem_of_getElem? (i := 557) (by decide +kernel)) rfl
theorem wm559 : (Cond.methodLink "MetreFractions" 115 ⟨"MetreFractions$Calculator", "setSum", "(LMetreFractions$Fraction;LMetreFractions$Fraction;LMetreFractions$Fraction;Z)V"⟩) ∈ tbg := tb_in (List.mem_of_getElem? (i := 559) (by decide +kernel)) rfl
theorem wm560 : (Cond.instanceMethod ⟨"MetreFractions$Calculator", "setSum", "(LMetreFractions$Fraction;LMetreFractions$Fraction;LMetreFractions$Fraction;Z)V"⟩) ∈ tbg := tb_in (List.mem_of_getElem? (i := 560) (by decide +kernel)) rfl
theorem wm561 : (Cond.selects "MetreFractions$Calculator" ⟨"MetreFractions$Calculator", "setSum", "(LMetreFractions$Fraction;LMetreFractions$Fraction;LMetreFractions$Fraction;Z)V"⟩ ⟨"MetreFractions$Calculator", "setSum", "(LMetreFractions$Fraction;LMetreFractions$Fraction;LMetreFractions$Fraction;Z)V"⟩) ∈ tbg := tb_in (List.mem_of_getElem? (i := 561) (by decide +kernel)) rfl
set_option maxRecDepth 100000 in
theorem wm562 : (Cond.code ⟨"MetreFractions$Calculator", "setSum", "(LMetreFractions$Fraction;LMetreFractions$Fraction;LMetreFractions$Fraction;Z)V"⟩ prog_2_method_3_code 6 (Option.none : Option Jvm.ClassFile.FieldType)) ∈ tbg := tb_in (List.mem_of_getElem? (i := 562) (rfl)) rfl
theorem wm563 : (Cond.methodLink "MetreFractions$Calculator" 83 ⟨"MetreFractions$Natural", "setProduct", "(LMetreFractions$Natural;LMetreFractions$Natural;)V"⟩) ∈ tbg := tb_in (List.mem_of_getElem? (i := 563) (by decide +kernel)) rfl
theorem wm564 : (Cond.instanceMethod ⟨"MetreFractions$Natural", "setProduct", "(LMetreFractions$Natural;LMetreFractions$Natural;)V"⟩) ∈ tbg := tb_in (List.mem_of_getElem? (i := 564) (by decide +kernel)) rfl
theorem wm565 : (Cond.selects "MetreFractions$Natural" ⟨"MetreFractions$Natural", "setProduct", "(LMetreFractions$Natural;LMetreFractions$Natural;)V"⟩ ⟨"MetreFractions$Natural", "setProduct", "(LMetreFractions$Natural;LMetreFractions$Natural;)V"⟩) ∈ tbg := tb_in (List.mem_of_getElem? (i := 565) (by decide +kernel)) rfl
set_option maxRecDepth 100000 in
theorem wm566 : (Cond.code ⟨"MetreFractions$Natural", "setProduct", "(LMetreFractions$Natural;LMetreFractions$Natural;)V"⟩ prog_6_method_17_code 11 (Option.none : Option Jvm.ClassFile.FieldType)) ∈ tbg := tb_in (List.mem_of_getElem? (i := 566) (rfl)) rfl
theorem wm567 : (Cond.methodLink "MetreFractions$Natural" 60 ⟨"MetreFractions$Natural", "widen", "(I)V"⟩) ∈ tbg := tb_in (List.mem_of_getElem? (i := 567) (by decide +kernel)) rfl
theorem wm568 : (Cond.methodLink "MetreFractions$Calculator" 87 ⟨"MetreFractions$Calculator", "joinParts", "(II)I"⟩) ∈ tbg := tb_in (List.mem_of_getElem? (i := 568) (by decide +kernel)) rfl
theorem wm570 : (Cond.instanceMethod ⟨"MetreFractions$Calculator", "joinParts", "(II)I"⟩) ∈ tbg := tb_in (List.mem_of_getElem? (i := 570) (by decide +kernel)) rfl
set_option maxRecDepth 100000 in
theorem wm571 : (Cond.code ⟨"MetreFractions$Calculator", "joinParts", "(II)I"⟩ prog_2_method_9_code 4 (Option.some .int)) ∈ tbg := tb_in (List.mem_of_getElem? (i := 571) (rfl)) rfl
theorem wm572 : (Cond.methodLink "MetreFractions$Calculator" 111 ⟨"MetreFractions$Natural", "setSum", "(LMetreFractions$Natural;LMetreFractions$Natural;)V"⟩) ∈ tbg := tb_in (List.mem_of_getElem? (i := 572) (by decide +kernel)) rfl
theorem wm573 : (Cond.instanceMethod ⟨"MetreFractions$Natural", "setSum", "(LMetreFractions$Natural;LMetreFractions$Natural;)V"⟩) ∈ tbg := tb_in (List.mem_of_getElem? (i := 573) (by decide +kernel)) rfl
theorem wm574 : (Cond.selects "MetreFractions$Natural" ⟨"MetreFractions$Natural", "setSum", "(LMetreFractions$Natural;LMetreFractions$Natural;)V"⟩ ⟨"MetreFractions$Natural", "setSum", "(LMetreFractions$Natural;LMetreFractions$Natural;)V"⟩) ∈ tbg := tb_in (List.mem_of_getElem? (i := 574) (by decide +kernel)) rfl
set_option maxRecDepth 100000 in
theorem wm575 : (Cond.code ⟨"MetreFractions$Natural", "setSum", "(LMetreFractions$Natural;LMetreFractions$Natural;)V"⟩ prog_6_method_15_code 8 (Option.none : Option Jvm.ClassFile.FieldType)) ∈ tbg := tb_in (List.mem_of_getElem? (i := 575) (rfl)) rfl
theorem wm576 : (Cond.methodLink "MetreFractions$Calculator" 107 ⟨"MetreFractions$Natural", "compare", "(LMetreFractions$Natural;)I"⟩) ∈ tbg := tb_in (List.mem_of_getElem? (i := 576) (by decide +kernel)) rfl
theorem wm577 : (Cond.methodLink "MetreFractions$Calculator" 114 ⟨"MetreFractions$Natural", "setDifference", "(LMetreFractions$Natural;LMetreFractions$Natural;)V"⟩) ∈ tbg := tb_in (List.mem_of_getElem? (i := 577) (by decide +kernel)) rfl
theorem wm578 : (Cond.instanceMethod ⟨"MetreFractions$Natural", "setDifference", "(LMetreFractions$Natural;LMetreFractions$Natural;)V"⟩) ∈ tbg := tb_in (List.mem_of_getElem? (i := 578) (by decide +kernel)) rfl
theorem wm579 : (Cond.selects "MetreFractions$Natural" ⟨"MetreFractions$Natural", "setDifference", "(LMetreFractions$Natural;LMetreFractions$Natural;)V"⟩ ⟨"MetreFractions$Natural", "setDifference", "(LMetreFractions$Natural;LMetreFractions$Natural;)V"⟩) ∈ tbg := tb_in (List.mem_of_getElem? (i := 579) (by decide +kernel)) rfl
set_option maxRecDepth 100000 in
theorem wm580 : (Cond.code ⟨"MetreFractions$Natural", "setDifference", "(LMetreFractions$Natural;LMetreFractions$Natural;)V"⟩ prog_6_method_16_code 7 (Option.none : Option Jvm.ClassFile.FieldType)) ∈ tbg := tb_in (List.mem_of_getElem? (i := 580) (rfl)) rfl
theorem wm581 : (Cond.methodLink "MetreFractionsLaw" 84 ⟨"MetreFractionsLaw", "times", "(LMetreFractions;II[J)I"⟩) ∈ tbg := tb_in (List.mem_of_getElem? (i := 581) (by decide +kernel)) rfl
theorem wm582 : (Cond.static ⟨"MetreFractionsLaw", "times", "(LMetreFractions;II[J)I"⟩) ∈ tbg := tb_in (List.mem_of_getElem? (i := 582) (by decide +kernel)) rfl
theorem wm584 : (Cond.methodLink "MetreFractionsLaw" 23 ⟨"MetreFractions", "times", "(II)I"⟩) ∈ tbg := tb_in (List.mem_of_getElem? (i := 584) (by decide +kernel)) rfl
theorem wm585 : (Cond.instanceMethod ⟨"MetreFractions", "times", "(II)I"⟩) ∈ tbg := tb_in (List.mem_of_getElem? (i := 585) (by decide +kernel)) rfl
theorem wm586 : (Cond.selects "MetreFractions" ⟨"MetreFractions", "times", "(II)I"⟩ ⟨"MetreFractions", "times", "(II)I"⟩) ∈ tbg := tb_in (List.mem_of_getElem? (i := 586) (by decide +kernel)) rfl
set_option maxRecDepth 100000 in
theorem wm587 : (Cond.code ⟨"MetreFractions", "times", "(II)I"⟩ prog_1_method_4_code 6 (Option.some .int)) ∈ tbg := tb_in (List.mem_of_getElem? (i := 587) (rfl)) rfl
theorem wm588 : (Cond.methodLink "MetreFractions" 119 ⟨"MetreFractions$Calculator", "setProduct", "(LMetreFractions$Fraction;LMetreFractions$Fraction;LMetreFractions$Fraction;Z)V"⟩) ∈ tbg := tb_in (List.mem_of_getElem? (i := 588) (by decide +kernel)) rfl
theorem wm589 : (Cond.instanceMethod ⟨"MetreFractions$Calculator", "setProduct", "(LMetreFractions$Fraction;LMetreFractions$Fraction;LMetreFractions$Fraction;Z)V"⟩) ∈ tbg := tb_in (List.mem_of_getElem? (i := 589) (by decide +kernel)) rfl
theorem wm590 : (Cond.selects "MetreFractions$Calculator" ⟨"MetreFractions$Calculator", "setProduct", "(LMetreFractions$Fraction;LMetreFractions$Fraction;LMetreFractions$Fraction;Z)V"⟩ ⟨"MetreFractions$Calculator", "setProduct", "(LMetreFractions$Fraction;LMetreFractions$Fraction;LMetreFractions$Fraction;Z)V"⟩) ∈ tbg := tb_in (List.mem_of_getElem? (i := 590) (by decide +kernel)) rfl
set_option maxRecDepth 100000 in
theorem wm591 : (Cond.code ⟨"MetreFractions$Calculator", "setProduct", "(LMetreFractions$Fraction;LMetreFractions$Fraction;LMetreFractions$Fraction;Z)V"⟩ prog_2_method_4_code 8 (Option.none : Option Jvm.ClassFile.FieldType)) ∈ tbg := tb_in (List.mem_of_getElem? (i := 591) (rfl)) rfl
theorem wm592 : (Cond.methodLink "MetreFractionsLaw" 88 ⟨"MetreFractionsLaw", "over", "(LMetreFractions;II[J)I"⟩) ∈ tbg := tb_in (List.mem_of_getElem? (i := 592) (by decide +kernel)) rfl
theorem wm593 : (Cond.static ⟨"MetreFractionsLaw", "over", "(LMetreFractions;II[J)I"⟩) ∈ tbg := tb_in (List.mem_of_getElem? (i := 593) (by decide +kernel)) rfl
theorem wm595 : (Cond.methodLink "MetreFractionsLaw" 27 ⟨"MetreFractions", "over", "(II)I"⟩) ∈ tbg := tb_in (List.mem_of_getElem? (i := 595) (by decide +kernel)) rfl
theorem wm596 : (Cond.instanceMethod ⟨"MetreFractions", "over", "(II)I"⟩) ∈ tbg := tb_in (List.mem_of_getElem? (i := 596) (by decide +kernel)) rfl
theorem wm597 : (Cond.selects "MetreFractions" ⟨"MetreFractions", "over", "(II)I"⟩ ⟨"MetreFractions", "over", "(II)I"⟩) ∈ tbg := tb_in (List.mem_of_getElem? (i := 597) (by decide +kernel)) rfl
set_option maxRecDepth 100000 in
theorem wm598 : (Cond.code ⟨"MetreFractions", "over", "(II)I"⟩ prog_1_method_5_code 6 (Option.some .int)) ∈ tbg := tb_in (List.mem_of_getElem? (i := 598) (rfl)) rfl
theorem wm599 : (Cond.methodLink "MetreFractionsLaw" 91 ⟨"MetreFractionsLaw", "order", "(LMetreFractions;II[J)I"⟩) ∈ tbg := tb_in (List.mem_of_getElem? (i := 599) (by decide +kernel)) rfl
theorem wm600 : (Cond.static ⟨"MetreFractionsLaw", "order", "(LMetreFractions;II[J)I"⟩) ∈ tbg := tb_in (List.mem_of_getElem? (i := 600) (by decide +kernel)) rfl
theorem wm602 : (Cond.methodLink "MetreFractionsLaw" 30 ⟨"MetreFractions", "order", "(II)I"⟩) ∈ tbg := tb_in (List.mem_of_getElem? (i := 602) (by decide +kernel)) rfl
theorem wm603 : (Cond.instanceMethod ⟨"MetreFractions", "order", "(II)I"⟩) ∈ tbg := tb_in (List.mem_of_getElem? (i := 603) (by decide +kernel)) rfl
theorem wm604 : (Cond.selects "MetreFractions" ⟨"MetreFractions", "order", "(II)I"⟩ ⟨"MetreFractions", "order", "(II)I"⟩) ∈ tbg := tb_in (List.mem_of_getElem? (i := 604) (by decide +kernel)) rfl
set_option maxRecDepth 100000 in
theorem wm605 : (Cond.code ⟨"MetreFractions", "order", "(II)I"⟩ prog_1_method_6_code 5 (Option.some .int)) ∈ tbg := tb_in (List.mem_of_getElem? (i := 605) (rfl)) rfl
theorem wm606 : (Cond.methodLink "MetreFractions" 125 ⟨"MetreFractions$Calculator", "compare", "(LMetreFractions$Fraction;LMetreFractions$Fraction;)I"⟩) ∈ tbg := tb_in (List.mem_of_getElem? (i := 606) (by decide +kernel)) rfl
theorem wm607 : (Cond.instanceMethod ⟨"MetreFractions$Calculator", "compare", "(LMetreFractions$Fraction;LMetreFractions$Fraction;)I"⟩) ∈ tbg := tb_in (List.mem_of_getElem? (i := 607) (by decide +kernel)) rfl
theorem wm608 : (Cond.selects "MetreFractions$Calculator" ⟨"MetreFractions$Calculator", "compare", "(LMetreFractions$Fraction;LMetreFractions$Fraction;)I"⟩ ⟨"MetreFractions$Calculator", "compare", "(LMetreFractions$Fraction;LMetreFractions$Fraction;)I"⟩) ∈ tbg := tb_in (List.mem_of_getElem? (i := 608) (by decide +kernel)) rfl
set_option maxRecDepth 100000 in
theorem wm609 : (Cond.code ⟨"MetreFractions$Calculator", "compare", "(LMetreFractions$Fraction;LMetreFractions$Fraction;)I"⟩ prog_2_method_6_code 4 (Option.some .int)) ∈ tbg := tb_in (List.mem_of_getElem? (i := 609) (rfl)) rfl
theorem wm610 : (Cond.methodLink "MetreFractionsLaw" 94 ⟨"MetreFractionsLaw", "round", "(LMetreFractions;III[J)I"⟩) ∈ tbg := tb_in (List.mem_of_getElem? (i := 610) (by decide +kernel)) rfl
theorem wm611 : (Cond.static ⟨"MetreFractionsLaw", "round", "(LMetreFractions;III[J)I"⟩) ∈ tbg := tb_in (List.mem_of_getElem? (i := 611) (by decide +kernel)) rfl
theorem wm613 : (Cond.methodLink "MetreFractionsLaw" 33 ⟨"MetreFractions", "round", "(III)I"⟩) ∈ tbg := tb_in (List.mem_of_getElem? (i := 613) (by decide +kernel)) rfl
theorem wm614 : (Cond.instanceMethod ⟨"MetreFractions", "round", "(III)I"⟩) ∈ tbg := tb_in (List.mem_of_getElem? (i := 614) (by decide +kernel)) rfl
theorem wm615 : (Cond.selects "MetreFractions" ⟨"MetreFractions", "round", "(III)I"⟩ ⟨"MetreFractions", "round", "(III)I"⟩) ∈ tbg := tb_in (List.mem_of_getElem? (i := 615) (by decide +kernel)) rfl
set_option maxRecDepth 100000 in
theorem wm616 : (Cond.code ⟨"MetreFractions", "round", "(III)I"⟩ prog_1_method_7_code 5 (Option.some .int)) ∈ tbg := tb_in (List.mem_of_getElem? (i := 616) (rfl)) rfl
theorem wm618 : (Cond.constant "MetreFractions" 131 1000000000) ∈ tbg := tb_in (List.mem_of_getElem? (i := 618) (by decide +kernel)) rfl
theorem wm620 : (Cond.methodLink "MetreFractions" 134 ⟨"MetreFractions$Calculator", "setRounded", "(LMetreFractions$Fraction;LMetreFractions$Fraction;II)V"⟩) ∈ tbg := tb_in (List.mem_of_getElem? (i := 620) (by decide +kernel)) rfl
theorem wm621 : (Cond.instanceMethod ⟨"MetreFractions$Calculator", "setRounded", "(LMetreFractions$Fraction;LMetreFractions$Fraction;II)V"⟩) ∈ tbg := tb_in (List.mem_of_getElem? (i := 621) (by decide +kernel)) rfl
theorem wm622 : (Cond.selects "MetreFractions$Calculator" ⟨"MetreFractions$Calculator", "setRounded", "(LMetreFractions$Fraction;LMetreFractions$Fraction;II)V"⟩ ⟨"MetreFractions$Calculator", "setRounded", "(LMetreFractions$Fraction;LMetreFractions$Fraction;II)V"⟩) ∈ tbg := tb_in (List.mem_of_getElem? (i := 622) (by decide +kernel)) rfl
set_option maxRecDepth 100000 in
theorem wm623 : (Cond.code ⟨"MetreFractions$Calculator", "setRounded", "(LMetreFractions$Fraction;LMetreFractions$Fraction;II)V"⟩ prog_2_method_5_code 5 (Option.none : Option Jvm.ClassFile.FieldType)) ∈ tbg := tb_in (List.mem_of_getElem? (i := 623) (rfl)) rfl
theorem wm624 : (Cond.methodLink "MetreFractions$Calculator" 97 ⟨"MetreFractions$Calculator", "goesFurther", "(LMetreFractions$Fraction;I)Z"⟩) ∈ tbg := tb_in (List.mem_of_getElem? (i := 624) (by decide +kernel)) rfl
theorem wm626 : (Cond.instanceMethod ⟨"MetreFractions$Calculator", "goesFurther", "(LMetreFractions$Fraction;I)Z"⟩) ∈ tbg := tb_in (List.mem_of_getElem? (i := 626) (by decide +kernel)) rfl
set_option maxRecDepth 100000 in
theorem wm627 : (Cond.code ⟨"MetreFractions$Calculator", "goesFurther", "(LMetreFractions$Fraction;I)Z"⟩ prog_2_method_10_code 4 (Option.some .boolean)) ∈ tbg := tb_in (List.mem_of_getElem? (i := 627) (rfl)) rfl
theorem wm628 : (Cond.methodLink "MetreFractions$Calculator" 120 ⟨"MetreFractions$Natural", "isOdd", "()Z"⟩) ∈ tbg := tb_in (List.mem_of_getElem? (i := 628) (by decide +kernel)) rfl
theorem wm629 : (Cond.instanceMethod ⟨"MetreFractions$Natural", "isOdd", "()Z"⟩) ∈ tbg := tb_in (List.mem_of_getElem? (i := 629) (by decide +kernel)) rfl
theorem wm630 : (Cond.selects "MetreFractions$Natural" ⟨"MetreFractions$Natural", "isOdd", "()Z"⟩ ⟨"MetreFractions$Natural", "isOdd", "()Z"⟩) ∈ tbg := tb_in (List.mem_of_getElem? (i := 630) (by decide +kernel)) rfl
set_option maxRecDepth 100000 in
theorem wm631 : (Cond.code ⟨"MetreFractions$Natural", "isOdd", "()Z"⟩ prog_6_method_7_code 1 (Option.some .boolean)) ∈ tbg := tb_in (List.mem_of_getElem? (i := 631) (rfl)) rfl
theorem wm632 : (Cond.methodLink "MetreFractions$Calculator" 101 ⟨"MetreFractions$Natural", "increase", "()V"⟩) ∈ tbg := tb_in (List.mem_of_getElem? (i := 632) (by decide +kernel)) rfl
theorem wm633 : (Cond.instanceMethod ⟨"MetreFractions$Natural", "increase", "()V"⟩) ∈ tbg := tb_in (List.mem_of_getElem? (i := 633) (by decide +kernel)) rfl
theorem wm634 : (Cond.selects "MetreFractions$Natural" ⟨"MetreFractions$Natural", "increase", "()V"⟩ ⟨"MetreFractions$Natural", "increase", "()V"⟩) ∈ tbg := tb_in (List.mem_of_getElem? (i := 634) (by decide +kernel)) rfl
set_option maxRecDepth 100000 in
theorem wm635 : (Cond.code ⟨"MetreFractions$Natural", "increase", "()V"⟩ prog_6_method_19_code 3 (Option.none : Option Jvm.ClassFile.FieldType)) ∈ tbg := tb_in (List.mem_of_getElem? (i := 635) (rfl)) rfl
theorem wm636 : (Cond.methodLink "MetreFractionsLaw" 98 ⟨"MetreFractionsLaw", "prism", "(LMetreFractions;IIII[J)I"⟩) ∈ tbg := tb_in (List.mem_of_getElem? (i := 636) (by decide +kernel)) rfl
theorem wm637 : (Cond.static ⟨"MetreFractionsLaw", "prism", "(LMetreFractions;IIII[J)I"⟩) ∈ tbg := tb_in (List.mem_of_getElem? (i := 637) (by decide +kernel)) rfl
theorem wm639 : (Cond.methodLink "MetreFractionsLaw" 37 ⟨"MetreFractions", "prism", "(IIII)I"⟩) ∈ tbg := tb_in (List.mem_of_getElem? (i := 639) (by decide +kernel)) rfl
theorem wm640 : (Cond.instanceMethod ⟨"MetreFractions", "prism", "(IIII)I"⟩) ∈ tbg := tb_in (List.mem_of_getElem? (i := 640) (by decide +kernel)) rfl
theorem wm641 : (Cond.selects "MetreFractions" ⟨"MetreFractions", "prism", "(IIII)I"⟩ ⟨"MetreFractions", "prism", "(IIII)I"⟩) ∈ tbg := tb_in (List.mem_of_getElem? (i := 641) (by decide +kernel)) rfl
set_option maxRecDepth 100000 in
theorem wm642 : (Cond.code ⟨"MetreFractions", "prism", "(IIII)I"⟩ prog_1_method_8_code 10 (Option.some .int)) ∈ tbg := tb_in (List.mem_of_getElem? (i := 642) (rfl)) rfl
theorem wm643 : (Cond.methodLink "MetreFractionsLaw" 102 ⟨"MetreFractionsLaw", "told", "(LMetreFractions;II[J)I"⟩) ∈ tbg := tb_in (List.mem_of_getElem? (i := 643) (by decide +kernel)) rfl
theorem wm644 : (Cond.static ⟨"MetreFractionsLaw", "told", "(LMetreFractions;II[J)I"⟩) ∈ tbg := tb_in (List.mem_of_getElem? (i := 644) (by decide +kernel)) rfl
theorem wm646 : (Cond.methodLink "MetreFractionsLaw" 41 ⟨"MetreFractions", "told", "(II)I"⟩) ∈ tbg := tb_in (List.mem_of_getElem? (i := 646) (by decide +kernel)) rfl
theorem wm647 : (Cond.instanceMethod ⟨"MetreFractions", "told", "(II)I"⟩) ∈ tbg := tb_in (List.mem_of_getElem? (i := 647) (by decide +kernel)) rfl
theorem wm648 : (Cond.selects "MetreFractions" ⟨"MetreFractions", "told", "(II)I"⟩ ⟨"MetreFractions", "told", "(II)I"⟩) ∈ tbg := tb_in (List.mem_of_getElem? (i := 648) (by decide +kernel)) rfl
set_option maxRecDepth 100000 in
theorem wm649 : (Cond.code ⟨"MetreFractions", "told", "(II)I"⟩ prog_1_method_9_code 4 (Option.some .int)) ∈ tbg := tb_in (List.mem_of_getElem? (i := 649) (rfl)) rfl
theorem wm650 : (Cond.methodLink "MetreFractions" 142 ⟨"MetreFractions$Natural", "digits", "()I"⟩) ∈ tbg := tb_in (List.mem_of_getElem? (i := 650) (by decide +kernel)) rfl
theorem wm652 : (Cond.methodLink "MetreFractionsLaw" 105 ⟨"MetreFractionsLaw", "digit", "(LMetreFractions;III[J)I"⟩) ∈ tbg := tb_in (List.mem_of_getElem? (i := 652) (by decide +kernel)) rfl
theorem wm653 : (Cond.static ⟨"MetreFractionsLaw", "digit", "(LMetreFractions;III[J)I"⟩) ∈ tbg := tb_in (List.mem_of_getElem? (i := 653) (by decide +kernel)) rfl
theorem wm655 : (Cond.methodLink "MetreFractionsLaw" 44 ⟨"MetreFractions", "digit", "(III)I"⟩) ∈ tbg := tb_in (List.mem_of_getElem? (i := 655) (by decide +kernel)) rfl
theorem wm656 : (Cond.instanceMethod ⟨"MetreFractions", "digit", "(III)I"⟩) ∈ tbg := tb_in (List.mem_of_getElem? (i := 656) (by decide +kernel)) rfl
theorem wm657 : (Cond.selects "MetreFractions" ⟨"MetreFractions", "digit", "(III)I"⟩ ⟨"MetreFractions", "digit", "(III)I"⟩) ∈ tbg := tb_in (List.mem_of_getElem? (i := 657) (by decide +kernel)) rfl
set_option maxRecDepth 100000 in
theorem wm658 : (Cond.code ⟨"MetreFractions", "digit", "(III)I"⟩ prog_1_method_10_code 6 (Option.some .int)) ∈ tbg := tb_in (List.mem_of_getElem? (i := 658) (rfl)) rfl
theorem wm661 : (Cond.methodLink "MetreFractions" 160 ⟨"MetreFractions$Natural", "decimal", "(I)I"⟩) ∈ tbg := tb_in (List.mem_of_getElem? (i := 661) (by decide +kernel)) rfl
theorem wm662 : (Cond.instanceMethod ⟨"MetreFractions$Natural", "decimal", "(I)I"⟩) ∈ tbg := tb_in (List.mem_of_getElem? (i := 662) (by decide +kernel)) rfl
theorem wm663 : (Cond.selects "MetreFractions$Natural" ⟨"MetreFractions$Natural", "decimal", "(I)I"⟩ ⟨"MetreFractions$Natural", "decimal", "(I)I"⟩) ∈ tbg := tb_in (List.mem_of_getElem? (i := 663) (by decide +kernel)) rfl
set_option maxRecDepth 100000 in
theorem wm664 : (Cond.code ⟨"MetreFractions$Natural", "decimal", "(I)I"⟩ prog_6_method_10_code 2 (Option.some .int)) ∈ tbg := tb_in (List.mem_of_getElem? (i := 664) (rfl)) rfl
theorem wm665 : (Cond.methodLink "MetreFractionsLaw" 116 ⟨"MetreFractionsLaw", "corner", "(LMetreFractions;III[J)I"⟩) ∈ tbg := tb_in (List.mem_of_getElem? (i := 665) (by decide +kernel)) rfl
theorem wm666 : (Cond.static ⟨"MetreFractionsLaw", "corner", "(LMetreFractions;III[J)I"⟩) ∈ tbg := tb_in (List.mem_of_getElem? (i := 666) (by decide +kernel)) rfl
theorem wm668 : (Cond.methodLink "MetreFractionsLaw" 47 ⟨"MetreFractions", "corner", "(III)I"⟩) ∈ tbg := tb_in (List.mem_of_getElem? (i := 668) (by decide +kernel)) rfl
theorem wm669 : (Cond.instanceMethod ⟨"MetreFractions", "corner", "(III)I"⟩) ∈ tbg := tb_in (List.mem_of_getElem? (i := 669) (by decide +kernel)) rfl
theorem wm670 : (Cond.selects "MetreFractions" ⟨"MetreFractions", "corner", "(III)I"⟩ ⟨"MetreFractions", "corner", "(III)I"⟩) ∈ tbg := tb_in (List.mem_of_getElem? (i := 670) (by decide +kernel)) rfl
set_option maxRecDepth 100000 in
theorem wm671 : (Cond.code ⟨"MetreFractions", "corner", "(III)I"⟩ prog_1_method_13_code 8 (Option.some .int)) ∈ tbg := tb_in (List.mem_of_getElem? (i := 671) (rfl)) rfl
theorem wm672 : (Cond.methodLink "MetreFractions" 167 ⟨"MetreFractions", "rowOf", "(I)LMetreFractions$Row;"⟩) ∈ tbg := tb_in (List.mem_of_getElem? (i := 672) (by decide +kernel)) rfl
theorem wm674 : (Cond.instanceMethod ⟨"MetreFractions", "rowOf", "(I)LMetreFractions$Row;"⟩) ∈ tbg := tb_in (List.mem_of_getElem? (i := 674) (by decide +kernel)) rfl
set_option maxRecDepth 100000 in
theorem wm675 : (Cond.code ⟨"MetreFractions", "rowOf", "(I)LMetreFractions$Row;"⟩ prog_1_method_22_code 2 (Option.some (.object "MetreFractions$Row"))) ∈ tbg := tb_in (List.mem_of_getElem? (i := 675) (rfl)) rfl
theorem wm677 : (Cond.methodLink "MetreFractions" 177 ⟨"MetreFractions$Row", "put", "(LMetreFractions$Value;LMetreFractions$Value;)V"⟩) ∈ tbg := tb_in (List.mem_of_getElem? (i := 677) (by decide +kernel)) rfl
theorem wm678 : (Cond.instanceMethod ⟨"MetreFractions$Row", "put", "(LMetreFractions$Value;LMetreFractions$Value;)V"⟩) ∈ tbg := tb_in (List.mem_of_getElem? (i := 678) (by decide +kernel)) rfl
theorem wm679 : (Cond.selects "MetreFractions$Row" ⟨"MetreFractions$Row", "put", "(LMetreFractions$Value;LMetreFractions$Value;)V"⟩ ⟨"MetreFractions$Row", "put", "(LMetreFractions$Value;LMetreFractions$Value;)V"⟩) ∈ tbg := tb_in (List.mem_of_getElem? (i := 679) (by decide +kernel)) rfl
set_option maxRecDepth 100000 in
theorem wm680 : (Cond.code ⟨"MetreFractions$Row", "put", "(LMetreFractions$Value;LMetreFractions$Value;)V"⟩ prog_7_method_2_code 3 (Option.none : Option Jvm.ClassFile.FieldType)) ∈ tbg := tb_in (List.mem_of_getElem? (i := 680) (rfl)) rfl
theorem wm681 : (Cond.methodLink "MetreFractionsLaw" 119 ⟨"MetreFractionsLaw", "at", "(LMetreFractions;II[J)I"⟩) ∈ tbg := tb_in (List.mem_of_getElem? (i := 681) (by decide +kernel)) rfl
theorem wm682 : (Cond.static ⟨"MetreFractionsLaw", "at", "(LMetreFractions;II[J)I"⟩) ∈ tbg := tb_in (List.mem_of_getElem? (i := 682) (by decide +kernel)) rfl
theorem wm684 : (Cond.methodLink "MetreFractionsLaw" 50 ⟨"MetreFractions", "at", "(II)I"⟩) ∈ tbg := tb_in (List.mem_of_getElem? (i := 684) (by decide +kernel)) rfl
theorem wm685 : (Cond.instanceMethod ⟨"MetreFractions", "at", "(II)I"⟩) ∈ tbg := tb_in (List.mem_of_getElem? (i := 685) (by decide +kernel)) rfl
theorem wm686 : (Cond.selects "MetreFractions" ⟨"MetreFractions", "at", "(II)I"⟩ ⟨"MetreFractions", "at", "(II)I"⟩) ∈ tbg := tb_in (List.mem_of_getElem? (i := 686) (by decide +kernel)) rfl
set_option maxRecDepth 100000 in
theorem wm687 : (Cond.code ⟨"MetreFractions", "at", "(II)I"⟩ prog_1_method_14_code 6 (Option.some .int)) ∈ tbg := tb_in (List.mem_of_getElem? (i := 687) (rfl)) rfl
theorem wm688 : (Cond.methodLink "MetreFractions" 181 ⟨"MetreFractions", "cornerNotBefore", "(LMetreFractions$Row;LMetreFractions$Fraction;)I"⟩) ∈ tbg := tb_in (List.mem_of_getElem? (i := 688) (by decide +kernel)) rfl
theorem wm690 : (Cond.instanceMethod ⟨"MetreFractions", "cornerNotBefore", "(LMetreFractions$Row;LMetreFractions$Fraction;)I"⟩) ∈ tbg := tb_in (List.mem_of_getElem? (i := 690) (by decide +kernel)) rfl
set_option maxRecDepth 100000 in
theorem wm691 : (Cond.code ⟨"MetreFractions", "cornerNotBefore", "(LMetreFractions$Row;LMetreFractions$Fraction;)I"⟩ prog_1_method_24_code 5 (Option.some .int)) ∈ tbg := tb_in (List.mem_of_getElem? (i := 691) (rfl)) rfl
theorem wm692 : (Cond.methodLink "MetreFractions" 185 ⟨"MetreFractions", "setHeight", "(LMetreFractions$Row;ILMetreFractions$Fraction;)V"⟩) ∈ tbg := tb_in (List.mem_of_getElem? (i := 692) (by decide +kernel)) rfl
theorem wm694 : (Cond.instanceMethod ⟨"MetreFractions", "setHeight", "(LMetreFractions$Row;ILMetreFractions$Fraction;)V"⟩) ∈ tbg := tb_in (List.mem_of_getElem? (i := 694) (by decide +kernel)) rfl
set_option maxRecDepth 100000 in
theorem wm695 : (Cond.code ⟨"MetreFractions", "setHeight", "(LMetreFractions$Row;ILMetreFractions$Fraction;)V"⟩ prog_1_method_25_code 8 (Option.none : Option Jvm.ClassFile.FieldType)) ∈ tbg := tb_in (List.mem_of_getElem? (i := 695) (rfl)) rfl
theorem wm696 : (Cond.methodLink "MetreFractions" 189 ⟨"MetreFractions$Fraction", "setTo", "(LMetreFractions$Fraction;)V"⟩) ∈ tbg := tb_in (List.mem_of_getElem? (i := 696) (by decide +kernel)) rfl
theorem wm697 : (Cond.methodLink "MetreFractionsLaw" 122 ⟨"MetreFractionsLaw", "area", "(LMetreFractions;I[J)I"⟩) ∈ tbg := tb_in (List.mem_of_getElem? (i := 697) (by decide +kernel)) rfl
theorem wm698 : (Cond.static ⟨"MetreFractionsLaw", "area", "(LMetreFractions;I[J)I"⟩) ∈ tbg := tb_in (List.mem_of_getElem? (i := 698) (by decide +kernel)) rfl
theorem wm700 : (Cond.methodLink "MetreFractionsLaw" 53 ⟨"MetreFractions", "area", "(I)I"⟩) ∈ tbg := tb_in (List.mem_of_getElem? (i := 700) (by decide +kernel)) rfl
theorem wm701 : (Cond.instanceMethod ⟨"MetreFractions", "area", "(I)I"⟩) ∈ tbg := tb_in (List.mem_of_getElem? (i := 701) (by decide +kernel)) rfl
theorem wm702 : (Cond.selects "MetreFractions" ⟨"MetreFractions", "area", "(I)I"⟩ ⟨"MetreFractions", "area", "(I)I"⟩) ∈ tbg := tb_in (List.mem_of_getElem? (i := 702) (by decide +kernel)) rfl
set_option maxRecDepth 100000 in
theorem wm703 : (Cond.code ⟨"MetreFractions", "area", "(I)I"⟩ prog_1_method_15_code 5 (Option.some .int)) ∈ tbg := tb_in (List.mem_of_getElem? (i := 703) (rfl)) rfl
theorem wm704 : (Cond.methodLink "MetreFractions" 193 ⟨"MetreFractions", "addStrip", "(LMetreFractions$Row;I)V"⟩) ∈ tbg := tb_in (List.mem_of_getElem? (i := 704) (by decide +kernel)) rfl
theorem wm706 : (Cond.instanceMethod ⟨"MetreFractions", "addStrip", "(LMetreFractions$Row;I)V"⟩) ∈ tbg := tb_in (List.mem_of_getElem? (i := 706) (by decide +kernel)) rfl
set_option maxRecDepth 100000 in
theorem wm707 : (Cond.code ⟨"MetreFractions", "addStrip", "(LMetreFractions$Row;I)V"⟩ prog_1_method_26_code 3 (Option.none : Option Jvm.ClassFile.FieldType)) ∈ tbg := tb_in (List.mem_of_getElem? (i := 707) (rfl)) rfl
theorem wm708 : (Cond.methodLink "MetreFractionsLaw" 126 ⟨"MetreFractionsLaw", "weight", "(LMetreFractions;I[J)I"⟩) ∈ tbg := tb_in (List.mem_of_getElem? (i := 708) (by decide +kernel)) rfl
theorem wm709 : (Cond.static ⟨"MetreFractionsLaw", "weight", "(LMetreFractions;I[J)I"⟩) ∈ tbg := tb_in (List.mem_of_getElem? (i := 709) (by decide +kernel)) rfl
theorem wm711 : (Cond.methodLink "MetreFractionsLaw" 57 ⟨"MetreFractions", "weight", "(I)I"⟩) ∈ tbg := tb_in (List.mem_of_getElem? (i := 711) (by decide +kernel)) rfl
theorem wm712 : (Cond.instanceMethod ⟨"MetreFractions", "weight", "(I)I"⟩) ∈ tbg := tb_in (List.mem_of_getElem? (i := 712) (by decide +kernel)) rfl
theorem wm713 : (Cond.selects "MetreFractions" ⟨"MetreFractions", "weight", "(I)I"⟩ ⟨"MetreFractions", "weight", "(I)I"⟩) ∈ tbg := tb_in (List.mem_of_getElem? (i := 713) (by decide +kernel)) rfl
set_option maxRecDepth 100000 in
theorem wm714 : (Cond.code ⟨"MetreFractions", "weight", "(I)I"⟩ prog_1_method_16_code 2 (Option.some .int)) ∈ tbg := tb_in (List.mem_of_getElem? (i := 714) (rfl)) rfl
theorem wm716 : (Cond.methodLink "MetreFractions" 203 ⟨"MetreFractions$Weights", "put", "(I)V"⟩) ∈ tbg := tb_in (List.mem_of_getElem? (i := 716) (by decide +kernel)) rfl
theorem wm717 : (Cond.instanceMethod ⟨"MetreFractions$Weights", "put", "(I)V"⟩) ∈ tbg := tb_in (List.mem_of_getElem? (i := 717) (by decide +kernel)) rfl
theorem wm718 : (Cond.selects "MetreFractions$Weights" ⟨"MetreFractions$Weights", "put", "(I)V"⟩ ⟨"MetreFractions$Weights", "put", "(I)V"⟩) ∈ tbg := tb_in (List.mem_of_getElem? (i := 718) (by decide +kernel)) rfl
set_option maxRecDepth 100000 in
theorem wm719 : (Cond.code ⟨"MetreFractions$Weights", "put", "(I)V"⟩ prog_9_method_2_code 2 (Option.none : Option Jvm.ClassFile.FieldType)) ∈ tbg := tb_in (List.mem_of_getElem? (i := 719) (rfl)) rfl
theorem wm720 : (Cond.methodLink "MetreFractionsLaw" 133 ⟨"MetreFractionsLaw", "share", "(LMetreFractions;JI[J)I"⟩) ∈ tbg := tb_in (List.mem_of_getElem? (i := 720) (by decide +kernel)) rfl
theorem wm721 : (Cond.static ⟨"MetreFractionsLaw", "share", "(LMetreFractions;JI[J)I"⟩) ∈ tbg := tb_in (List.mem_of_getElem? (i := 721) (by decide +kernel)) rfl
theorem wm723 : (Cond.methodLink "MetreFractionsLaw" 60 ⟨"MetreFractions", "share", "(JI)J"⟩) ∈ tbg := tb_in (List.mem_of_getElem? (i := 723) (by decide +kernel)) rfl
theorem wm724 : (Cond.instanceMethod ⟨"MetreFractions", "share", "(JI)J"⟩) ∈ tbg := tb_in (List.mem_of_getElem? (i := 724) (by decide +kernel)) rfl
theorem wm725 : (Cond.selects "MetreFractions" ⟨"MetreFractions", "share", "(JI)J"⟩ ⟨"MetreFractions", "share", "(JI)J"⟩) ∈ tbg := tb_in (List.mem_of_getElem? (i := 725) (by decide +kernel)) rfl
set_option maxRecDepth 100000 in
theorem wm726 : (Cond.code ⟨"MetreFractions", "share", "(JI)J"⟩ prog_1_method_18_code 4 (Option.some .long)) ∈ tbg := tb_in (List.mem_of_getElem? (i := 726) (rfl)) rfl
theorem wm728 : (Cond.constantLong "MetreFractions" 208 1000000000000) ∈ tbg := tb_in (List.mem_of_getElem? (i := 728) (by decide +kernel)) rfl
theorem wm730 : (Cond.methodLink "MetreFractions" 212 ⟨"MetreFractions$Weights", "portion", "(JI)J"⟩) ∈ tbg := tb_in (List.mem_of_getElem? (i := 730) (by decide +kernel)) rfl
theorem wm731 : (Cond.instanceMethod ⟨"MetreFractions$Weights", "portion", "(JI)J"⟩) ∈ tbg := tb_in (List.mem_of_getElem? (i := 731) (by decide +kernel)) rfl
theorem wm732 : (Cond.selects "MetreFractions$Weights" ⟨"MetreFractions$Weights", "portion", "(JI)J"⟩ ⟨"MetreFractions$Weights", "portion", "(JI)J"⟩) ∈ tbg := tb_in (List.mem_of_getElem? (i := 732) (by decide +kernel)) rfl
set_option maxRecDepth 100000 in
theorem wm733 : (Cond.code ⟨"MetreFractions$Weights", "portion", "(JI)J"⟩ prog_9_method_3_code 13 (Option.some .long)) ∈ tbg := tb_in (List.mem_of_getElem? (i := 733) (rfl)) rfl
theorem wm734 : (Cond.methodLink "MetreFractions$Weights" 23 ⟨"MetreFractions$Weights", "total", "()J"⟩) ∈ tbg := tb_in (List.mem_of_getElem? (i := 734) (by decide +kernel)) rfl
theorem wm736 : (Cond.instanceMethod ⟨"MetreFractions$Weights", "total", "()J"⟩) ∈ tbg := tb_in (List.mem_of_getElem? (i := 736) (by decide +kernel)) rfl
set_option maxRecDepth 100000 in
theorem wm737 : (Cond.code ⟨"MetreFractions$Weights", "total", "()J"⟩ prog_9_method_4_code 4 (Option.some .long)) ∈ tbg := tb_in (List.mem_of_getElem? (i := 737) (rfl)) rfl
theorem wm738 : (Cond.methodLink "MetreFractions$Weights" 27 ⟨"MetreFractions$Weights", "roundedDown", "(JJJ)J"⟩) ∈ tbg := tb_in (List.mem_of_getElem? (i := 738) (by decide +kernel)) rfl
theorem wm739 : (Cond.static ⟨"MetreFractions$Weights", "roundedDown", "(JJJ)J"⟩) ∈ tbg := tb_in (List.mem_of_getElem? (i := 739) (by decide +kernel)) rfl
set_option maxRecDepth 100000 in
theorem wm740 : (Cond.code ⟨"MetreFractions$Weights", "roundedDown", "(JJJ)J"⟩ prog_9_method_5_code 12 (Option.some .long)) ∈ tbg := tb_in (List.mem_of_getElem? (i := 740) (rfl)) rfl
theorem wm741 : (Cond.constantLong "MetreFractions$Weights" 35 32768) ∈ tbg := tb_in (List.mem_of_getElem? (i := 741) (by decide +kernel)) rfl
theorem wm742 : (Cond.methodLink "MetreFractions$Weights" 31 ⟨"MetreFractions$Weights", "comesBefore", "(I)I"⟩) ∈ tbg := tb_in (List.mem_of_getElem? (i := 742) (by decide +kernel)) rfl
theorem wm744 : (Cond.instanceMethod ⟨"MetreFractions$Weights", "comesBefore", "(I)I"⟩) ∈ tbg := tb_in (List.mem_of_getElem? (i := 744) (by decide +kernel)) rfl
set_option maxRecDepth 100000 in
theorem wm745 : (Cond.code ⟨"MetreFractions$Weights", "comesBefore", "(I)I"⟩ prog_9_method_6_code 4 (Option.some .int)) ∈ tbg := tb_in (List.mem_of_getElem? (i := 745) (rfl)) rfl
theorem wm746 : (Cond.classLink "MetreFractionsLaw" 65 "MetreFractionsModel") ∈ tbg := tb_in (List.mem_of_getElem? (i := 746) (by decide +kernel)) rfl
theorem wm747 : (Cond.instantiable "MetreFractionsModel" 22) ∈ tbg := tb_in (List.mem_of_getElem? (i := 747) (by decide +kernel)) rfl
theorem wm748 : (Cond.methodLink "MetreFractionsLaw" 67 ⟨"MetreFractionsModel", "<init>", "()V"⟩) ∈ tbg := tb_in (List.mem_of_getElem? (i := 748) (by decide +kernel)) rfl
theorem wm749 : (Cond.instanceMethod ⟨"MetreFractionsModel", "<init>", "()V"⟩) ∈ tbg := tb_in (List.mem_of_getElem? (i := 749) (by decide +kernel)) rfl
set_option maxRecDepth 100000 in
theorem wm750 : (Cond.code ⟨"MetreFractionsModel", "<init>", "()V"⟩ prog_11_method_1_code 1 (Option.none : Option Jvm.ClassFile.FieldType)) ∈ tbg := tb_in (List.mem_of_getElem? (i := 750) (rfl)) rfl
theorem wm751 : (Cond.methodLink "MetreFractionsModel" 1 ⟨"java/lang/Object", "<init>", "()V"⟩) ∈ tbg := tb_in (List.mem_of_getElem? (i := 751) (by decide +kernel)) rfl
theorem wm752 : (Cond.constant "MetreFractionsModel" 16 40400) ∈ tbg := tb_in (List.mem_of_getElem? (i := 752) (by decide +kernel)) rfl
theorem wm753 : (Cond.constant "MetreFractionsModel" 23 38700) ∈ tbg := tb_in (List.mem_of_getElem? (i := 753) (by decide +kernel)) rfl
theorem wm754 : (Cond.fieldLink "MetreFractionsModel" 52 "MetreFractionsModel" "thrown" "I") ∈ tbg := tb_in (List.mem_of_getElem? (i := 754) (by decide +kernel)) rfl
theorem wm755 : (Cond.fieldLink "MetreFractionsModel" 122 "MetreFractionsModel" "values" "I") ∈ tbg := tb_in (List.mem_of_getElem? (i := 755) (by decide +kernel)) rfl
theorem wm756 : (Cond.fieldLink "MetreFractionsModel" 7 "MetreFractionsModel" "signs" "[I") ∈ tbg := tb_in (List.mem_of_getElem? (i := 756) (by decide +kernel)) rfl
theorem wm757 : (Cond.fieldLink "MetreFractionsModel" 13 "MetreFractionsModel" "units" "[I") ∈ tbg := tb_in (List.mem_of_getElem? (i := 757) (by decide +kernel)) rfl
theorem wm758 : (Cond.fieldLink "MetreFractionsModel" 17 "MetreFractionsModel" "store" "[I") ∈ tbg := tb_in (List.mem_of_getElem? (i := 758) (by decide +kernel)) rfl
theorem wm759 : (Cond.fieldLink "MetreFractionsModel" 20 "MetreFractionsModel" "sizes" "[I") ∈ tbg := tb_in (List.mem_of_getElem? (i := 759) (by decide +kernel)) rfl
theorem wm760 : (Cond.fieldLink "MetreFractionsModel" 94 "MetreFractionsModel" "sign" "I") ∈ tbg := tb_in (List.mem_of_getElem? (i := 760) (by decide +kernel)) rfl
theorem wm761 : (Cond.fieldLink "MetreFractionsModel" 103 "MetreFractionsModel" "sign2" "I") ∈ tbg := tb_in (List.mem_of_getElem? (i := 761) (by decide +kernel)) rfl
theorem wm762 : (Cond.fieldLink "MetreFractionsModel" 24 "MetreFractionsModel" "limbs" "[I") ∈ tbg := tb_in (List.mem_of_getElem? (i := 762) (by decide +kernel)) rfl
theorem wm763 : (Cond.fieldLink "MetreFractionsModel" 27 "MetreFractionsModel" "size" "[I") ∈ tbg := tb_in (List.mem_of_getElem? (i := 763) (by decide +kernel)) rfl
theorem wm764 : (Cond.fieldLink "MetreFractionsModel" 166 "MetreFractionsModel" "rows" "I") ∈ tbg := tb_in (List.mem_of_getElem? (i := 764) (by decide +kernel)) rfl
theorem wm765 : (Cond.fieldLink "MetreFractionsModel" 30 "MetreFractionsModel" "corners" "[I") ∈ tbg := tb_in (List.mem_of_getElem? (i := 765) (by decide +kernel)) rfl
theorem wm766 : (Cond.fieldLink "MetreFractionsModel" 33 "MetreFractionsModel" "places" "[I") ∈ tbg := tb_in (List.mem_of_getElem? (i := 766) (by decide +kernel)) rfl
theorem wm767 : (Cond.fieldLink "MetreFractionsModel" 36 "MetreFractionsModel" "heights" "[I") ∈ tbg := tb_in (List.mem_of_getElem? (i := 767) (by decide +kernel)) rfl
theorem wm768 : (Cond.fieldLink "MetreFractionsModel" 193 "MetreFractionsModel" "weights" "I") ∈ tbg := tb_in (List.mem_of_getElem? (i := 768) (by decide +kernel)) rfl
theorem wm769 : (Cond.fieldLink "MetreFractionsModel" 39 "MetreFractionsModel" "weight" "[J") ∈ tbg := tb_in (List.mem_of_getElem? (i := 769) (by decide +kernel)) rfl
theorem wm770 : (Cond.fieldLink "MetreFractionsModel" 43 "MetreFractionsModel" "shares" "[J") ∈ tbg := tb_in (List.mem_of_getElem? (i := 770) (by decide +kernel)) rfl
theorem wm771 : (Cond.fieldLink "MetreFractionsModel" 46 "MetreFractionsModel" "rests" "[J") ∈ tbg := tb_in (List.mem_of_getElem? (i := 771) (by decide +kernel)) rfl
theorem wm772 : (Cond.fieldLink "MetreFractionsModel" 49 "MetreFractionsModel" "kept" "[I") ∈ tbg := tb_in (List.mem_of_getElem? (i := 772) (by decide +kernel)) rfl
theorem wm773 : (Cond.fieldLink "MetreFractionsModel" 181 "MetreFractionsModel" "keptTop" "I") ∈ tbg := tb_in (List.mem_of_getElem? (i := 773) (by decide +kernel)) rfl
theorem wm774 : (Cond.fieldLink "MetreFractionsModel" 184 "MetreFractionsModel" "keptBottom" "I") ∈ tbg := tb_in (List.mem_of_getElem? (i := 774) (by decide +kernel)) rfl
theorem wm775 : (Cond.fieldLink "MetreFractionsModel" 187 "MetreFractionsModel" "keptSign" "I") ∈ tbg := tb_in (List.mem_of_getElem? (i := 775) (by decide +kernel)) rfl
theorem wm776 : (Cond.lays "MetreFractionsModel" "MetreFractionsModel" "thrown" "I") ∈ tbg := tb_in (List.mem_of_getElem? (i := 776) (by decide +kernel)) rfl
theorem wm778 : (Cond.lays "MetreFractionsModel" "MetreFractionsModel" "values" "I") ∈ tbg := tb_in (List.mem_of_getElem? (i := 778) (by decide +kernel)) rfl
theorem wm780 : (Cond.laysFinal "MetreFractionsModel" "MetreFractionsModel" "signs" "[I") ∈ tbg := tb_in (List.mem_of_getElem? (i := 780) (by decide +kernel)) rfl
theorem wm782 : (Cond.laysFinal "MetreFractionsModel" "MetreFractionsModel" "units" "[I") ∈ tbg := tb_in (List.mem_of_getElem? (i := 782) (by decide +kernel)) rfl
theorem wm784 : (Cond.laysFinal "MetreFractionsModel" "MetreFractionsModel" "store" "[I") ∈ tbg := tb_in (List.mem_of_getElem? (i := 784) (by decide +kernel)) rfl
theorem wm786 : (Cond.laysFinal "MetreFractionsModel" "MetreFractionsModel" "sizes" "[I") ∈ tbg := tb_in (List.mem_of_getElem? (i := 786) (by decide +kernel)) rfl
theorem wm788 : (Cond.lays "MetreFractionsModel" "MetreFractionsModel" "sign" "I") ∈ tbg := tb_in (List.mem_of_getElem? (i := 788) (by decide +kernel)) rfl
theorem wm790 : (Cond.lays "MetreFractionsModel" "MetreFractionsModel" "sign2" "I") ∈ tbg := tb_in (List.mem_of_getElem? (i := 790) (by decide +kernel)) rfl
theorem wm792 : (Cond.laysFinal "MetreFractionsModel" "MetreFractionsModel" "limbs" "[I") ∈ tbg := tb_in (List.mem_of_getElem? (i := 792) (by decide +kernel)) rfl
theorem wm794 : (Cond.laysFinal "MetreFractionsModel" "MetreFractionsModel" "size" "[I") ∈ tbg := tb_in (List.mem_of_getElem? (i := 794) (by decide +kernel)) rfl
theorem wm796 : (Cond.lays "MetreFractionsModel" "MetreFractionsModel" "rows" "I") ∈ tbg := tb_in (List.mem_of_getElem? (i := 796) (by decide +kernel)) rfl
theorem wm798 : (Cond.laysFinal "MetreFractionsModel" "MetreFractionsModel" "corners" "[I") ∈ tbg := tb_in (List.mem_of_getElem? (i := 798) (by decide +kernel)) rfl
theorem wm800 : (Cond.laysFinal "MetreFractionsModel" "MetreFractionsModel" "places" "[I") ∈ tbg := tb_in (List.mem_of_getElem? (i := 800) (by decide +kernel)) rfl
theorem wm802 : (Cond.laysFinal "MetreFractionsModel" "MetreFractionsModel" "heights" "[I") ∈ tbg := tb_in (List.mem_of_getElem? (i := 802) (by decide +kernel)) rfl
theorem wm804 : (Cond.lays "MetreFractionsModel" "MetreFractionsModel" "weights" "I") ∈ tbg := tb_in (List.mem_of_getElem? (i := 804) (by decide +kernel)) rfl
theorem wm806 : (Cond.laysFinal "MetreFractionsModel" "MetreFractionsModel" "weight" "[J") ∈ tbg := tb_in (List.mem_of_getElem? (i := 806) (by decide +kernel)) rfl
theorem wm808 : (Cond.laysFinal "MetreFractionsModel" "MetreFractionsModel" "shares" "[J") ∈ tbg := tb_in (List.mem_of_getElem? (i := 808) (by decide +kernel)) rfl
theorem wm810 : (Cond.laysFinal "MetreFractionsModel" "MetreFractionsModel" "rests" "[J") ∈ tbg := tb_in (List.mem_of_getElem? (i := 810) (by decide +kernel)) rfl
theorem wm812 : (Cond.laysFinal "MetreFractionsModel" "MetreFractionsModel" "kept" "[I") ∈ tbg := tb_in (List.mem_of_getElem? (i := 812) (by decide +kernel)) rfl
theorem wm814 : (Cond.lays "MetreFractionsModel" "MetreFractionsModel" "keptTop" "I") ∈ tbg := tb_in (List.mem_of_getElem? (i := 814) (by decide +kernel)) rfl
theorem wm816 : (Cond.lays "MetreFractionsModel" "MetreFractionsModel" "keptBottom" "I") ∈ tbg := tb_in (List.mem_of_getElem? (i := 816) (by decide +kernel)) rfl
theorem wm818 : (Cond.lays "MetreFractionsModel" "MetreFractionsModel" "keptSign" "I") ∈ tbg := tb_in (List.mem_of_getElem? (i := 818) (by decide +kernel)) rfl
theorem wm821 : (Cond.methodLink "MetreFractionsLaw" 76 ⟨"MetreFractionsModel", "thrown", "()I"⟩) ∈ tbg := tb_in (List.mem_of_getElem? (i := 821) (by decide +kernel)) rfl
theorem wm822 : (Cond.instanceMethod ⟨"MetreFractionsModel", "thrown", "()I"⟩) ∈ tbg := tb_in (List.mem_of_getElem? (i := 822) (by decide +kernel)) rfl
theorem wm823 : (Cond.selects "MetreFractionsModel" ⟨"MetreFractionsModel", "thrown", "()I"⟩ ⟨"MetreFractionsModel", "thrown", "()I"⟩) ∈ tbg := tb_in (List.mem_of_getElem? (i := 823) (by decide +kernel)) rfl
set_option maxRecDepth 100000 in
theorem wm824 : (Cond.code ⟨"MetreFractionsModel", "thrown", "()I"⟩ prog_11_method_2_code 1 (Option.some .int)) ∈ tbg := tb_in (List.mem_of_getElem? (i := 824) (rfl)) rfl
theorem wm825 : (Cond.methodLink "MetreFractionsLaw" 75 ⟨"MetreFractionsModel", "value", "(JJI)I"⟩) ∈ tbg := tb_in (List.mem_of_getElem? (i := 825) (by decide +kernel)) rfl
theorem wm826 : (Cond.instanceMethod ⟨"MetreFractionsModel", "value", "(JJI)I"⟩) ∈ tbg := tb_in (List.mem_of_getElem? (i := 826) (by decide +kernel)) rfl
theorem wm827 : (Cond.selects "MetreFractionsModel" ⟨"MetreFractionsModel", "value", "(JJI)I"⟩ ⟨"MetreFractionsModel", "value", "(JJI)I"⟩) ∈ tbg := tb_in (List.mem_of_getElem? (i := 827) (by decide +kernel)) rfl
set_option maxRecDepth 100000 in
theorem wm828 : (Cond.code ⟨"MetreFractionsModel", "value", "(JJI)I"⟩ prog_11_method_28_code 6 (Option.some .int)) ∈ tbg := tb_in (List.mem_of_getElem? (i := 828) (rfl)) rfl
theorem wm829 : (Cond.methodLink "MetreFractionsModel" 129 ⟨"MetreFractionsModel", "isUnit", "(I)Z"⟩) ∈ tbg := tb_in (List.mem_of_getElem? (i := 829) (by decide +kernel)) rfl
theorem wm830 : (Cond.static ⟨"MetreFractionsModel", "isUnit", "(I)Z"⟩) ∈ tbg := tb_in (List.mem_of_getElem? (i := 830) (by decide +kernel)) rfl
set_option maxRecDepth 100000 in
theorem wm831 : (Cond.code ⟨"MetreFractionsModel", "isUnit", "(I)Z"⟩ prog_11_method_26_code 1 (Option.some .boolean)) ∈ tbg := tb_in (List.mem_of_getElem? (i := 831) (rfl)) rfl
theorem wm832 : (Cond.methodLink "MetreFractionsModel" 133 ⟨"MetreFractionsModel", "setSize", "(IJ)V"⟩) ∈ tbg := tb_in (List.mem_of_getElem? (i := 832) (by decide +kernel)) rfl
theorem wm834 : (Cond.instanceMethod ⟨"MetreFractionsModel", "setSize", "(IJ)V"⟩) ∈ tbg := tb_in (List.mem_of_getElem? (i := 834) (by decide +kernel)) rfl
set_option maxRecDepth 100000 in
theorem wm835 : (Cond.code ⟨"MetreFractionsModel", "setSize", "(IJ)V"⟩ prog_11_method_27_code 4 (Option.none : Option Jvm.ClassFile.FieldType)) ∈ tbg := tb_in (List.mem_of_getElem? (i := 835) (rfl)) rfl
theorem wm836 : (Cond.constantLong "MetreFractionsModel" 125 (-9223372036854775808)) ∈ tbg := tb_in (List.mem_of_getElem? (i := 836) (by decide +kernel)) rfl
theorem wm837 : (Cond.constantLong "MetreFractionsModel" 127 9223372036854775807) ∈ tbg := tb_in (List.mem_of_getElem? (i := 837) (by decide +kernel)) rfl
theorem wm838 : (Cond.methodLink "MetreFractionsModel" 78 ⟨"MetreFractionsModel", "set", "(IJ)V"⟩) ∈ tbg := tb_in (List.mem_of_getElem? (i := 838) (by decide +kernel)) rfl
theorem wm840 : (Cond.instanceMethod ⟨"MetreFractionsModel", "set", "(IJ)V"⟩) ∈ tbg := tb_in (List.mem_of_getElem? (i := 840) (by decide +kernel)) rfl
set_option maxRecDepth 100000 in
theorem wm841 : (Cond.code ⟨"MetreFractionsModel", "set", "(IJ)V"⟩ prog_11_method_5_code 6 (Option.none : Option Jvm.ClassFile.FieldType)) ∈ tbg := tb_in (List.mem_of_getElem? (i := 841) (rfl)) rfl
theorem wm842 : (Cond.constantLong "MetreFractionsModel" 56 1000000000) ∈ tbg := tb_in (List.mem_of_getElem? (i := 842) (by decide +kernel)) rfl
theorem wm843 : (Cond.methodLink "MetreFractionsModel" 115 ⟨"MetreFractionsModel", "reduce", "()V"⟩) ∈ tbg := tb_in (List.mem_of_getElem? (i := 843) (by decide +kernel)) rfl
theorem wm845 : (Cond.instanceMethod ⟨"MetreFractionsModel", "reduce", "()V"⟩) ∈ tbg := tb_in (List.mem_of_getElem? (i := 845) (by decide +kernel)) rfl
set_option maxRecDepth 100000 in
theorem wm846 : (Cond.code ⟨"MetreFractionsModel", "reduce", "()V"⟩ prog_11_method_17_code 4 (Option.none : Option Jvm.ClassFile.FieldType)) ∈ tbg := tb_in (List.mem_of_getElem? (i := 846) (rfl)) rfl
theorem wm847 : (Cond.methodLink "MetreFractionsModel" 70 ⟨"MetreFractionsModel", "copy", "(II)V"⟩) ∈ tbg := tb_in (List.mem_of_getElem? (i := 847) (by decide +kernel)) rfl
theorem wm849 : (Cond.instanceMethod ⟨"MetreFractionsModel", "copy", "(II)V"⟩) ∈ tbg := tb_in (List.mem_of_getElem? (i := 849) (by decide +kernel)) rfl
set_option maxRecDepth 100000 in
theorem wm850 : (Cond.code ⟨"MetreFractionsModel", "copy", "(II)V"⟩ prog_11_method_6_code 4 (Option.none : Option Jvm.ClassFile.FieldType)) ∈ tbg := tb_in (List.mem_of_getElem? (i := 850) (rfl)) rfl
theorem wm851 : (Cond.methodLink "MetreFractionsModel" 97 ⟨"MetreFractionsModel", "divide", "(II)V"⟩) ∈ tbg := tb_in (List.mem_of_getElem? (i := 851) (by decide +kernel)) rfl
theorem wm853 : (Cond.instanceMethod ⟨"MetreFractionsModel", "divide", "(II)V"⟩) ∈ tbg := tb_in (List.mem_of_getElem? (i := 853) (by decide +kernel)) rfl
set_option maxRecDepth 100000 in
theorem wm854 : (Cond.code ⟨"MetreFractionsModel", "divide", "(II)V"⟩ prog_11_method_15_code 18 (Option.none : Option Jvm.ClassFile.FieldType)) ∈ tbg := tb_in (List.mem_of_getElem? (i := 854) (rfl)) rfl
theorem wm855 : (Cond.methodLink "MetreFractionsModel" 67 ⟨"MetreFractionsModel", "compare", "(II)I"⟩) ∈ tbg := tb_in (List.mem_of_getElem? (i := 855) (by decide +kernel)) rfl
theorem wm857 : (Cond.instanceMethod ⟨"MetreFractionsModel", "compare", "(II)I"⟩) ∈ tbg := tb_in (List.mem_of_getElem? (i := 857) (by decide +kernel)) rfl
set_option maxRecDepth 100000 in
theorem wm858 : (Cond.code ⟨"MetreFractionsModel", "compare", "(II)I"⟩ prog_11_method_7_code 4 (Option.some .int)) ∈ tbg := tb_in (List.mem_of_getElem? (i := 858) (rfl)) rfl
theorem wm859 : (Cond.methodLink "MetreFractionsModel" 74 ⟨"MetreFractionsModel", "small", "(IJ)J"⟩) ∈ tbg := tb_in (List.mem_of_getElem? (i := 859) (by decide +kernel)) rfl
theorem wm861 : (Cond.instanceMethod ⟨"MetreFractionsModel", "small", "(IJ)J"⟩) ∈ tbg := tb_in (List.mem_of_getElem? (i := 861) (by decide +kernel)) rfl
set_option maxRecDepth 100000 in
theorem wm862 : (Cond.code ⟨"MetreFractionsModel", "small", "(IJ)J"⟩ prog_11_method_12_code 9 (Option.some .long)) ∈ tbg := tb_in (List.mem_of_getElem? (i := 862) (rfl)) rfl
theorem wm863 : (Cond.methodLink "MetreFractionsModel" 63 ⟨"MetreFractionsModel", "trim", "(I)V"⟩) ∈ tbg := tb_in (List.mem_of_getElem? (i := 863) (by decide +kernel)) rfl
theorem wm865 : (Cond.instanceMethod ⟨"MetreFractionsModel", "trim", "(I)V"⟩) ∈ tbg := tb_in (List.mem_of_getElem? (i := 865) (by decide +kernel)) rfl
set_option maxRecDepth 100000 in
theorem wm866 : (Cond.code ⟨"MetreFractionsModel", "trim", "(I)V"⟩ prog_11_method_4_code 2 (Option.none : Option Jvm.ClassFile.FieldType)) ∈ tbg := tb_in (List.mem_of_getElem? (i := 866) (rfl)) rfl
theorem wm867 : (Cond.constant "MetreFractionsModel" 62 1000000000) ∈ tbg := tb_in (List.mem_of_getElem? (i := 867) (by decide +kernel)) rfl
theorem wm868 : (Cond.methodLink "MetreFractionsModel" 82 ⟨"MetreFractionsModel", "scale", "(IJ)V"⟩) ∈ tbg := tb_in (List.mem_of_getElem? (i := 868) (by decide +kernel)) rfl
theorem wm870 : (Cond.instanceMethod ⟨"MetreFractionsModel", "scale", "(IJ)V"⟩) ∈ tbg := tb_in (List.mem_of_getElem? (i := 870) (by decide +kernel)) rfl
set_option maxRecDepth 100000 in
theorem wm871 : (Cond.code ⟨"MetreFractionsModel", "scale", "(IJ)V"⟩ prog_11_method_11_code 9 (Option.none : Option Jvm.ClassFile.FieldType)) ∈ tbg := tb_in (List.mem_of_getElem? (i := 871) (rfl)) rfl
theorem wm872 : (Cond.methodLink "MetreFractionsModel" 85 ⟨"MetreFractionsModel", "takeOff", "(IIII)Z"⟩) ∈ tbg := tb_in (List.mem_of_getElem? (i := 872) (by decide +kernel)) rfl
theorem wm874 : (Cond.instanceMethod ⟨"MetreFractionsModel", "takeOff", "(IIII)Z"⟩) ∈ tbg := tb_in (List.mem_of_getElem? (i := 874) (by decide +kernel)) rfl
set_option maxRecDepth 100000 in
theorem wm875 : (Cond.code ⟨"MetreFractionsModel", "takeOff", "(IIII)Z"⟩ prog_11_method_13_code 12 (Option.some .boolean)) ∈ tbg := tb_in (List.mem_of_getElem? (i := 875) (rfl)) rfl
theorem wm876 : (Cond.methodLink "MetreFractionsModel" 89 ⟨"MetreFractionsModel", "putOn", "(III)V"⟩) ∈ tbg := tb_in (List.mem_of_getElem? (i := 876) (by decide +kernel)) rfl
theorem wm878 : (Cond.instanceMethod ⟨"MetreFractionsModel", "putOn", "(III)V"⟩) ∈ tbg := tb_in (List.mem_of_getElem? (i := 878) (by decide +kernel)) rfl
set_option maxRecDepth 100000 in
theorem wm879 : (Cond.code ⟨"MetreFractionsModel", "putOn", "(III)V"⟩ prog_11_method_14_code 9 (Option.none : Option Jvm.ClassFile.FieldType)) ∈ tbg := tb_in (List.mem_of_getElem? (i := 879) (rfl)) rfl
theorem wm880 : (Cond.constant "MetreFractionsModel" 93 34400) ∈ tbg := tb_in (List.mem_of_getElem? (i := 880) (by decide +kernel)) rfl
theorem wm881 : (Cond.methodLink "MetreFractionsModel" 136 ⟨"MetreFractionsModel", "keep", "(I)I"⟩) ∈ tbg := tb_in (List.mem_of_getElem? (i := 881) (by decide +kernel)) rfl
theorem wm883 : (Cond.instanceMethod ⟨"MetreFractionsModel", "keep", "(I)I"⟩) ∈ tbg := tb_in (List.mem_of_getElem? (i := 883) (by decide +kernel)) rfl
set_option maxRecDepth 100000 in
theorem wm884 : (Cond.code ⟨"MetreFractionsModel", "keep", "(I)I"⟩ prog_11_method_24_code 4 (Option.some .int)) ∈ tbg := tb_in (List.mem_of_getElem? (i := 884) (rfl)) rfl
theorem wm885 : (Cond.methodLink "MetreFractionsModel" 118 ⟨"MetreFractionsModel", "digits", "(I)I"⟩) ∈ tbg := tb_in (List.mem_of_getElem? (i := 885) (by decide +kernel)) rfl
theorem wm887 : (Cond.instanceMethod ⟨"MetreFractionsModel", "digits", "(I)I"⟩) ∈ tbg := tb_in (List.mem_of_getElem? (i := 887) (by decide +kernel)) rfl
set_option maxRecDepth 100000 in
theorem wm888 : (Cond.code ⟨"MetreFractionsModel", "digits", "(I)I"⟩ prog_11_method_16_code 4 (Option.some .int)) ∈ tbg := tb_in (List.mem_of_getElem? (i := 888) (rfl)) rfl
theorem wm889 : (Cond.methodLink "MetreFractionsLaw" 83 ⟨"MetreFractionsModel", "add", "(IIZ)I"⟩) ∈ tbg := tb_in (List.mem_of_getElem? (i := 889) (by decide +kernel)) rfl
theorem wm890 : (Cond.instanceMethod ⟨"MetreFractionsModel", "add", "(IIZ)I"⟩) ∈ tbg := tb_in (List.mem_of_getElem? (i := 890) (by decide +kernel)) rfl
theorem wm891 : (Cond.selects "MetreFractionsModel" ⟨"MetreFractionsModel", "add", "(IIZ)I"⟩ ⟨"MetreFractionsModel", "add", "(IIZ)I"⟩) ∈ tbg := tb_in (List.mem_of_getElem? (i := 891) (by decide +kernel)) rfl
set_option maxRecDepth 100000 in
theorem wm892 : (Cond.code ⟨"MetreFractionsModel", "add", "(IIZ)I"⟩ prog_11_method_29_code 4 (Option.some .int)) ∈ tbg := tb_in (List.mem_of_getElem? (i := 892) (rfl)) rfl
theorem wm893 : (Cond.methodLink "MetreFractionsModel" 139 ⟨"MetreFractionsModel", "isValue", "(I)Z"⟩) ∈ tbg := tb_in (List.mem_of_getElem? (i := 893) (by decide +kernel)) rfl
theorem wm895 : (Cond.instanceMethod ⟨"MetreFractionsModel", "isValue", "(I)Z"⟩) ∈ tbg := tb_in (List.mem_of_getElem? (i := 895) (by decide +kernel)) rfl
set_option maxRecDepth 100000 in
theorem wm896 : (Cond.code ⟨"MetreFractionsModel", "isValue", "(I)Z"⟩ prog_11_method_25_code 2 (Option.some .boolean)) ∈ tbg := tb_in (List.mem_of_getElem? (i := 896) (rfl)) rfl
theorem wm897 : (Cond.methodLink "MetreFractionsModel" 142 ⟨"MetreFractionsModel", "load", "(I)V"⟩) ∈ tbg := tb_in (List.mem_of_getElem? (i := 897) (by decide +kernel)) rfl
theorem wm899 : (Cond.instanceMethod ⟨"MetreFractionsModel", "load", "(I)V"⟩) ∈ tbg := tb_in (List.mem_of_getElem? (i := 899) (by decide +kernel)) rfl
set_option maxRecDepth 100000 in
theorem wm900 : (Cond.code ⟨"MetreFractionsModel", "load", "(I)V"⟩ prog_11_method_19_code 2 (Option.none : Option Jvm.ClassFile.FieldType)) ∈ tbg := tb_in (List.mem_of_getElem? (i := 900) (rfl)) rfl
theorem wm901 : (Cond.methodLink "MetreFractionsModel" 100 ⟨"MetreFractionsModel", "take", "(III)V"⟩) ∈ tbg := tb_in (List.mem_of_getElem? (i := 901) (by decide +kernel)) rfl
theorem wm903 : (Cond.instanceMethod ⟨"MetreFractionsModel", "take", "(III)V"⟩) ∈ tbg := tb_in (List.mem_of_getElem? (i := 903) (by decide +kernel)) rfl
set_option maxRecDepth 100000 in
theorem wm904 : (Cond.code ⟨"MetreFractionsModel", "take", "(III)V"⟩ prog_11_method_18_code 5 (Option.none : Option Jvm.ClassFile.FieldType)) ∈ tbg := tb_in (List.mem_of_getElem? (i := 904) (rfl)) rfl
theorem wm905 : (Cond.methodLink "MetreFractionsModel" 145 ⟨"MetreFractionsModel", "loadOther", "(I)V"⟩) ∈ tbg := tb_in (List.mem_of_getElem? (i := 905) (by decide +kernel)) rfl
theorem wm907 : (Cond.instanceMethod ⟨"MetreFractionsModel", "loadOther", "(I)V"⟩) ∈ tbg := tb_in (List.mem_of_getElem? (i := 907) (by decide +kernel)) rfl
set_option maxRecDepth 100000 in
theorem wm908 : (Cond.code ⟨"MetreFractionsModel", "loadOther", "(I)V"⟩ prog_11_method_20_code 2 (Option.none : Option Jvm.ClassFile.FieldType)) ∈ tbg := tb_in (List.mem_of_getElem? (i := 908) (rfl)) rfl
theorem wm909 : (Cond.methodLink "MetreFractionsModel" 148 ⟨"MetreFractionsModel", "addOther", "(I)V"⟩) ∈ tbg := tb_in (List.mem_of_getElem? (i := 909) (by decide +kernel)) rfl
theorem wm911 : (Cond.instanceMethod ⟨"MetreFractionsModel", "addOther", "(I)V"⟩) ∈ tbg := tb_in (List.mem_of_getElem? (i := 911) (by decide +kernel)) rfl
set_option maxRecDepth 100000 in
theorem wm912 : (Cond.code ⟨"MetreFractionsModel", "addOther", "(I)V"⟩ prog_11_method_21_code 3 (Option.none : Option Jvm.ClassFile.FieldType)) ∈ tbg := tb_in (List.mem_of_getElem? (i := 912) (rfl)) rfl
theorem wm913 : (Cond.methodLink "MetreFractionsModel" 106 ⟨"MetreFractionsModel", "multiply", "(III)V"⟩) ∈ tbg := tb_in (List.mem_of_getElem? (i := 913) (by decide +kernel)) rfl
theorem wm915 : (Cond.instanceMethod ⟨"MetreFractionsModel", "multiply", "(III)V"⟩) ∈ tbg := tb_in (List.mem_of_getElem? (i := 915) (by decide +kernel)) rfl
set_option maxRecDepth 100000 in
theorem wm916 : (Cond.code ⟨"MetreFractionsModel", "multiply", "(III)V"⟩ prog_11_method_10_code 13 (Option.none : Option Jvm.ClassFile.FieldType)) ∈ tbg := tb_in (List.mem_of_getElem? (i := 916) (rfl)) rfl
theorem wm917 : (Cond.methodLink "MetreFractionsModel" 109 ⟨"MetreFractionsModel", "plus", "(II)V"⟩) ∈ tbg := tb_in (List.mem_of_getElem? (i := 917) (by decide +kernel)) rfl
theorem wm919 : (Cond.instanceMethod ⟨"MetreFractionsModel", "plus", "(II)V"⟩) ∈ tbg := tb_in (List.mem_of_getElem? (i := 919) (by decide +kernel)) rfl
set_option maxRecDepth 100000 in
theorem wm920 : (Cond.code ⟨"MetreFractionsModel", "plus", "(II)V"⟩ prog_11_method_8_code 7 (Option.none : Option Jvm.ClassFile.FieldType)) ∈ tbg := tb_in (List.mem_of_getElem? (i := 920) (rfl)) rfl
theorem wm921 : (Cond.methodLink "MetreFractionsModel" 58 ⟨"MetreFractionsModel", "limb", "(II)I"⟩) ∈ tbg := tb_in (List.mem_of_getElem? (i := 921) (by decide +kernel)) rfl
theorem wm923 : (Cond.instanceMethod ⟨"MetreFractionsModel", "limb", "(II)I"⟩) ∈ tbg := tb_in (List.mem_of_getElem? (i := 923) (by decide +kernel)) rfl
set_option maxRecDepth 100000 in
theorem wm924 : (Cond.code ⟨"MetreFractionsModel", "limb", "(II)I"⟩ prog_11_method_3_code 3 (Option.some .int)) ∈ tbg := tb_in (List.mem_of_getElem? (i := 924) (rfl)) rfl
theorem wm925 : (Cond.methodLink "MetreFractionsModel" 112 ⟨"MetreFractionsModel", "subtract", "(II)V"⟩) ∈ tbg := tb_in (List.mem_of_getElem? (i := 925) (by decide +kernel)) rfl
theorem wm927 : (Cond.instanceMethod ⟨"MetreFractionsModel", "subtract", "(II)V"⟩) ∈ tbg := tb_in (List.mem_of_getElem? (i := 927) (by decide +kernel)) rfl
set_option maxRecDepth 100000 in
theorem wm928 : (Cond.code ⟨"MetreFractionsModel", "subtract", "(II)V"⟩ prog_11_method_9_code 6 (Option.none : Option Jvm.ClassFile.FieldType)) ∈ tbg := tb_in (List.mem_of_getElem? (i := 928) (rfl)) rfl
theorem wm929 : (Cond.methodLink "MetreFractionsLaw" 87 ⟨"MetreFractionsModel", "times", "(II)I"⟩) ∈ tbg := tb_in (List.mem_of_getElem? (i := 929) (by decide +kernel)) rfl
theorem wm930 : (Cond.instanceMethod ⟨"MetreFractionsModel", "times", "(II)I"⟩) ∈ tbg := tb_in (List.mem_of_getElem? (i := 930) (by decide +kernel)) rfl
theorem wm931 : (Cond.selects "MetreFractionsModel" ⟨"MetreFractionsModel", "times", "(II)I"⟩ ⟨"MetreFractionsModel", "times", "(II)I"⟩) ∈ tbg := tb_in (List.mem_of_getElem? (i := 931) (by decide +kernel)) rfl
set_option maxRecDepth 100000 in
theorem wm932 : (Cond.code ⟨"MetreFractionsModel", "times", "(II)I"⟩ prog_11_method_30_code 4 (Option.some .int)) ∈ tbg := tb_in (List.mem_of_getElem? (i := 932) (rfl)) rfl
theorem wm933 : (Cond.methodLink "MetreFractionsModel" 151 ⟨"MetreFractionsModel", "timesOther", "()V"⟩) ∈ tbg := tb_in (List.mem_of_getElem? (i := 933) (by decide +kernel)) rfl
theorem wm935 : (Cond.instanceMethod ⟨"MetreFractionsModel", "timesOther", "()V"⟩) ∈ tbg := tb_in (List.mem_of_getElem? (i := 935) (by decide +kernel)) rfl
set_option maxRecDepth 100000 in
theorem wm936 : (Cond.code ⟨"MetreFractionsModel", "timesOther", "()V"⟩ prog_11_method_22_code 1 (Option.none : Option Jvm.ClassFile.FieldType)) ∈ tbg := tb_in (List.mem_of_getElem? (i := 936) (rfl)) rfl
theorem wm937 : (Cond.methodLink "MetreFractionsLaw" 90 ⟨"MetreFractionsModel", "over", "(II)I"⟩) ∈ tbg := tb_in (List.mem_of_getElem? (i := 937) (by decide +kernel)) rfl
theorem wm938 : (Cond.instanceMethod ⟨"MetreFractionsModel", "over", "(II)I"⟩) ∈ tbg := tb_in (List.mem_of_getElem? (i := 938) (by decide +kernel)) rfl
theorem wm939 : (Cond.selects "MetreFractionsModel" ⟨"MetreFractionsModel", "over", "(II)I"⟩ ⟨"MetreFractionsModel", "over", "(II)I"⟩) ∈ tbg := tb_in (List.mem_of_getElem? (i := 939) (by decide +kernel)) rfl
set_option maxRecDepth 100000 in
theorem wm940 : (Cond.code ⟨"MetreFractionsModel", "over", "(II)I"⟩ prog_11_method_31_code 4 (Option.some .int)) ∈ tbg := tb_in (List.mem_of_getElem? (i := 940) (rfl)) rfl
theorem wm941 : (Cond.methodLink "MetreFractionsModel" 154 ⟨"MetreFractionsModel", "overOther", "()V"⟩) ∈ tbg := tb_in (List.mem_of_getElem? (i := 941) (by decide +kernel)) rfl
theorem wm943 : (Cond.instanceMethod ⟨"MetreFractionsModel", "overOther", "()V"⟩) ∈ tbg := tb_in (List.mem_of_getElem? (i := 943) (by decide +kernel)) rfl
set_option maxRecDepth 100000 in
theorem wm944 : (Cond.code ⟨"MetreFractionsModel", "overOther", "()V"⟩ prog_11_method_23_code 1 (Option.none : Option Jvm.ClassFile.FieldType)) ∈ tbg := tb_in (List.mem_of_getElem? (i := 944) (rfl)) rfl
theorem wm945 : (Cond.methodLink "MetreFractionsLaw" 93 ⟨"MetreFractionsModel", "order", "(II)I"⟩) ∈ tbg := tb_in (List.mem_of_getElem? (i := 945) (by decide +kernel)) rfl
theorem wm946 : (Cond.instanceMethod ⟨"MetreFractionsModel", "order", "(II)I"⟩) ∈ tbg := tb_in (List.mem_of_getElem? (i := 946) (by decide +kernel)) rfl
theorem wm947 : (Cond.selects "MetreFractionsModel" ⟨"MetreFractionsModel", "order", "(II)I"⟩ ⟨"MetreFractionsModel", "order", "(II)I"⟩) ∈ tbg := tb_in (List.mem_of_getElem? (i := 947) (by decide +kernel)) rfl
set_option maxRecDepth 100000 in
theorem wm948 : (Cond.code ⟨"MetreFractionsModel", "order", "(II)I"⟩ prog_11_method_33_code 3 (Option.some .int)) ∈ tbg := tb_in (List.mem_of_getElem? (i := 948) (rfl)) rfl
theorem wm949 : (Cond.methodLink "MetreFractionsModel" 157 ⟨"MetreFractionsModel", "compareValues", "(II)I"⟩) ∈ tbg := tb_in (List.mem_of_getElem? (i := 949) (by decide +kernel)) rfl
theorem wm951 : (Cond.instanceMethod ⟨"MetreFractionsModel", "compareValues", "(II)I"⟩) ∈ tbg := tb_in (List.mem_of_getElem? (i := 951) (by decide +kernel)) rfl
set_option maxRecDepth 100000 in
theorem wm952 : (Cond.code ⟨"MetreFractionsModel", "compareValues", "(II)I"⟩ prog_11_method_32_code 3 (Option.some .int)) ∈ tbg := tb_in (List.mem_of_getElem? (i := 952) (rfl)) rfl
theorem wm953 : (Cond.methodLink "MetreFractionsLaw" 97 ⟨"MetreFractionsModel", "round", "(III)I"⟩) ∈ tbg := tb_in (List.mem_of_getElem? (i := 953) (by decide +kernel)) rfl
theorem wm954 : (Cond.instanceMethod ⟨"MetreFractionsModel", "round", "(III)I"⟩) ∈ tbg := tb_in (List.mem_of_getElem? (i := 954) (by decide +kernel)) rfl
theorem wm955 : (Cond.selects "MetreFractionsModel" ⟨"MetreFractionsModel", "round", "(III)I"⟩ ⟨"MetreFractionsModel", "round", "(III)I"⟩) ∈ tbg := tb_in (List.mem_of_getElem? (i := 955) (by decide +kernel)) rfl
set_option maxRecDepth 100000 in
theorem wm956 : (Cond.code ⟨"MetreFractionsModel", "round", "(III)I"⟩ prog_11_method_34_code 8 (Option.some .int)) ∈ tbg := tb_in (List.mem_of_getElem? (i := 956) (rfl)) rfl
theorem wm957 : (Cond.constantLong "MetreFractionsModel" 160 2) ∈ tbg := tb_in (List.mem_of_getElem? (i := 957) (by decide +kernel)) rfl
theorem wm958 : (Cond.methodLink "MetreFractionsLaw" 101 ⟨"MetreFractionsModel", "prism", "(IIII)I"⟩) ∈ tbg := tb_in (List.mem_of_getElem? (i := 958) (by decide +kernel)) rfl
theorem wm959 : (Cond.instanceMethod ⟨"MetreFractionsModel", "prism", "(IIII)I"⟩) ∈ tbg := tb_in (List.mem_of_getElem? (i := 959) (by decide +kernel)) rfl
theorem wm960 : (Cond.selects "MetreFractionsModel" ⟨"MetreFractionsModel", "prism", "(IIII)I"⟩ ⟨"MetreFractionsModel", "prism", "(IIII)I"⟩) ∈ tbg := tb_in (List.mem_of_getElem? (i := 960) (by decide +kernel)) rfl
set_option maxRecDepth 100000 in
theorem wm961 : (Cond.code ⟨"MetreFractionsModel", "prism", "(IIII)I"⟩ prog_11_method_35_code 6 (Option.some .int)) ∈ tbg := tb_in (List.mem_of_getElem? (i := 961) (rfl)) rfl
theorem wm962 : (Cond.constantLong "MetreFractionsModel" 162 4) ∈ tbg := tb_in (List.mem_of_getElem? (i := 962) (by decide +kernel)) rfl
theorem wm963 : (Cond.constantLong "MetreFractionsModel" 164 6) ∈ tbg := tb_in (List.mem_of_getElem? (i := 963) (by decide +kernel)) rfl
theorem wm964 : (Cond.methodLink "MetreFractionsLaw" 104 ⟨"MetreFractionsModel", "told", "(II)I"⟩) ∈ tbg := tb_in (List.mem_of_getElem? (i := 964) (by decide +kernel)) rfl
theorem wm965 : (Cond.instanceMethod ⟨"MetreFractionsModel", "told", "(II)I"⟩) ∈ tbg := tb_in (List.mem_of_getElem? (i := 965) (by decide +kernel)) rfl
theorem wm966 : (Cond.selects "MetreFractionsModel" ⟨"MetreFractionsModel", "told", "(II)I"⟩ ⟨"MetreFractionsModel", "told", "(II)I"⟩) ∈ tbg := tb_in (List.mem_of_getElem? (i := 966) (by decide +kernel)) rfl
set_option maxRecDepth 100000 in
theorem wm967 : (Cond.code ⟨"MetreFractionsModel", "told", "(II)I"⟩ prog_11_method_36_code 3 (Option.some .int)) ∈ tbg := tb_in (List.mem_of_getElem? (i := 967) (rfl)) rfl
theorem wm968 : (Cond.methodLink "MetreFractionsLaw" 107 ⟨"MetreFractionsModel", "digit", "(III)I"⟩) ∈ tbg := tb_in (List.mem_of_getElem? (i := 968) (by decide +kernel)) rfl
theorem wm969 : (Cond.instanceMethod ⟨"MetreFractionsModel", "digit", "(III)I"⟩) ∈ tbg := tb_in (List.mem_of_getElem? (i := 969) (by decide +kernel)) rfl
theorem wm970 : (Cond.selects "MetreFractionsModel" ⟨"MetreFractionsModel", "digit", "(III)I"⟩ ⟨"MetreFractionsModel", "digit", "(III)I"⟩) ∈ tbg := tb_in (List.mem_of_getElem? (i := 970) (by decide +kernel)) rfl
set_option maxRecDepth 100000 in
theorem wm971 : (Cond.code ⟨"MetreFractionsModel", "digit", "(III)I"⟩ prog_11_method_37_code 8 (Option.some .int)) ∈ tbg := tb_in (List.mem_of_getElem? (i := 971) (rfl)) rfl
theorem wm972 : (Cond.methodLink "MetreFractionsLaw" 111 ⟨"MetreFractionsModel", "clear", "()I"⟩) ∈ tbg := tb_in (List.mem_of_getElem? (i := 972) (by decide +kernel)) rfl
theorem wm973 : (Cond.instanceMethod ⟨"MetreFractionsModel", "clear", "()I"⟩) ∈ tbg := tb_in (List.mem_of_getElem? (i := 973) (by decide +kernel)) rfl
theorem wm974 : (Cond.selects "MetreFractionsModel" ⟨"MetreFractionsModel", "clear", "()I"⟩ ⟨"MetreFractionsModel", "clear", "()I"⟩) ∈ tbg := tb_in (List.mem_of_getElem? (i := 974) (by decide +kernel)) rfl
set_option maxRecDepth 100000 in
theorem wm975 : (Cond.code ⟨"MetreFractionsModel", "clear", "()I"⟩ prog_11_method_38_code 2 (Option.some .int)) ∈ tbg := tb_in (List.mem_of_getElem? (i := 975) (rfl)) rfl
theorem wm976 : (Cond.methodLink "MetreFractionsLaw" 115 ⟨"MetreFractionsModel", "row", "()I"⟩) ∈ tbg := tb_in (List.mem_of_getElem? (i := 976) (by decide +kernel)) rfl
theorem wm977 : (Cond.instanceMethod ⟨"MetreFractionsModel", "row", "()I"⟩) ∈ tbg := tb_in (List.mem_of_getElem? (i := 977) (by decide +kernel)) rfl
theorem wm978 : (Cond.selects "MetreFractionsModel" ⟨"MetreFractionsModel", "row", "()I"⟩ ⟨"MetreFractionsModel", "row", "()I"⟩) ∈ tbg := tb_in (List.mem_of_getElem? (i := 978) (by decide +kernel)) rfl
set_option maxRecDepth 100000 in
theorem wm979 : (Cond.code ⟨"MetreFractionsModel", "row", "()I"⟩ prog_11_method_39_code 1 (Option.some .int)) ∈ tbg := tb_in (List.mem_of_getElem? (i := 979) (rfl)) rfl
theorem wm980 : (Cond.methodLink "MetreFractionsLaw" 118 ⟨"MetreFractionsModel", "corner", "(III)I"⟩) ∈ tbg := tb_in (List.mem_of_getElem? (i := 980) (by decide +kernel)) rfl
theorem wm981 : (Cond.instanceMethod ⟨"MetreFractionsModel", "corner", "(III)I"⟩) ∈ tbg := tb_in (List.mem_of_getElem? (i := 981) (by decide +kernel)) rfl
theorem wm982 : (Cond.selects "MetreFractionsModel" ⟨"MetreFractionsModel", "corner", "(III)I"⟩ ⟨"MetreFractionsModel", "corner", "(III)I"⟩) ∈ tbg := tb_in (List.mem_of_getElem? (i := 982) (by decide +kernel)) rfl
set_option maxRecDepth 100000 in
theorem wm983 : (Cond.code ⟨"MetreFractionsModel", "corner", "(III)I"⟩ prog_11_method_41_code 5 (Option.some .int)) ∈ tbg := tb_in (List.mem_of_getElem? (i := 983) (rfl)) rfl
theorem wm984 : (Cond.methodLink "MetreFractionsModel" 169 ⟨"MetreFractionsModel", "isRow", "(I)Z"⟩) ∈ tbg := tb_in (List.mem_of_getElem? (i := 984) (by decide +kernel)) rfl
theorem wm986 : (Cond.instanceMethod ⟨"MetreFractionsModel", "isRow", "(I)Z"⟩) ∈ tbg := tb_in (List.mem_of_getElem? (i := 986) (by decide +kernel)) rfl
set_option maxRecDepth 100000 in
theorem wm987 : (Cond.code ⟨"MetreFractionsModel", "isRow", "(I)Z"⟩ prog_11_method_40_code 2 (Option.some .boolean)) ∈ tbg := tb_in (List.mem_of_getElem? (i := 987) (rfl)) rfl
theorem wm988 : (Cond.methodLink "MetreFractionsLaw" 121 ⟨"MetreFractionsModel", "at", "(II)I"⟩) ∈ tbg := tb_in (List.mem_of_getElem? (i := 988) (by decide +kernel)) rfl
theorem wm989 : (Cond.instanceMethod ⟨"MetreFractionsModel", "at", "(II)I"⟩) ∈ tbg := tb_in (List.mem_of_getElem? (i := 989) (by decide +kernel)) rfl
theorem wm990 : (Cond.selects "MetreFractionsModel" ⟨"MetreFractionsModel", "at", "(II)I"⟩ ⟨"MetreFractionsModel", "at", "(II)I"⟩) ∈ tbg := tb_in (List.mem_of_getElem? (i := 990) (by decide +kernel)) rfl
set_option maxRecDepth 100000 in
theorem wm991 : (Cond.code ⟨"MetreFractionsModel", "at", "(II)I"⟩ prog_11_method_42_code 7 (Option.some .int)) ∈ tbg := tb_in (List.mem_of_getElem? (i := 991) (rfl)) rfl
theorem wm992 : (Cond.methodLink "MetreFractionsModel" 172 ⟨"MetreFractionsModel", "stash", "()V"⟩) ∈ tbg := tb_in (List.mem_of_getElem? (i := 992) (by decide +kernel)) rfl
theorem wm994 : (Cond.instanceMethod ⟨"MetreFractionsModel", "stash", "()V"⟩) ∈ tbg := tb_in (List.mem_of_getElem? (i := 994) (by decide +kernel)) rfl
set_option maxRecDepth 100000 in
theorem wm995 : (Cond.code ⟨"MetreFractionsModel", "stash", "()V"⟩ prog_11_method_43_code 2 (Option.none : Option Jvm.ClassFile.FieldType)) ∈ tbg := tb_in (List.mem_of_getElem? (i := 995) (rfl)) rfl
theorem wm996 : (Cond.methodLink "MetreFractionsModel" 175 ⟨"MetreFractionsModel", "unstash", "()V"⟩) ∈ tbg := tb_in (List.mem_of_getElem? (i := 996) (by decide +kernel)) rfl
theorem wm998 : (Cond.instanceMethod ⟨"MetreFractionsModel", "unstash", "()V"⟩) ∈ tbg := tb_in (List.mem_of_getElem? (i := 998) (by decide +kernel)) rfl
set_option maxRecDepth 100000 in
theorem wm999 : (Cond.code ⟨"MetreFractionsModel", "unstash", "()V"⟩ prog_11_method_44_code 2 (Option.none : Option Jvm.ClassFile.FieldType)) ∈ tbg := tb_in (List.mem_of_getElem? (i := 999) (rfl)) rfl
theorem wm1000 : (Cond.methodLink "MetreFractionsModel" 178 ⟨"MetreFractionsModel", "exchange", "()V"⟩) ∈ tbg := tb_in (List.mem_of_getElem? (i := 1000) (by decide +kernel)) rfl
theorem wm1002 : (Cond.instanceMethod ⟨"MetreFractionsModel", "exchange", "()V"⟩) ∈ tbg := tb_in (List.mem_of_getElem? (i := 1002) (by decide +kernel)) rfl
set_option maxRecDepth 100000 in
theorem wm1003 : (Cond.code ⟨"MetreFractionsModel", "exchange", "()V"⟩ prog_11_method_45_code 2 (Option.none : Option Jvm.ClassFile.FieldType)) ∈ tbg := tb_in (List.mem_of_getElem? (i := 1003) (rfl)) rfl
theorem wm1004 : (Cond.methodLink "MetreFractionsLaw" 125 ⟨"MetreFractionsModel", "area", "(I)I"⟩) ∈ tbg := tb_in (List.mem_of_getElem? (i := 1004) (by decide +kernel)) rfl
theorem wm1005 : (Cond.instanceMethod ⟨"MetreFractionsModel", "area", "(I)I"⟩) ∈ tbg := tb_in (List.mem_of_getElem? (i := 1005) (by decide +kernel)) rfl
theorem wm1006 : (Cond.selects "MetreFractionsModel" ⟨"MetreFractionsModel", "area", "(I)I"⟩ ⟨"MetreFractionsModel", "area", "(I)I"⟩) ∈ tbg := tb_in (List.mem_of_getElem? (i := 1006) (by decide +kernel)) rfl
set_option maxRecDepth 100000 in
theorem wm1007 : (Cond.code ⟨"MetreFractionsModel", "area", "(I)I"⟩ prog_11_method_47_code 5 (Option.some .int)) ∈ tbg := tb_in (List.mem_of_getElem? (i := 1007) (rfl)) rfl
theorem wm1008 : (Cond.methodLink "MetreFractionsModel" 190 ⟨"MetreFractionsModel", "addHalf", "(II)V"⟩) ∈ tbg := tb_in (List.mem_of_getElem? (i := 1008) (by decide +kernel)) rfl
theorem wm1010 : (Cond.instanceMethod ⟨"MetreFractionsModel", "addHalf", "(II)V"⟩) ∈ tbg := tb_in (List.mem_of_getElem? (i := 1010) (by decide +kernel)) rfl
set_option maxRecDepth 100000 in
theorem wm1011 : (Cond.code ⟨"MetreFractionsModel", "addHalf", "(II)V"⟩ prog_11_method_46_code 3 (Option.none : Option Jvm.ClassFile.FieldType)) ∈ tbg := tb_in (List.mem_of_getElem? (i := 1011) (rfl)) rfl
theorem wm1012 : (Cond.methodLink "MetreFractionsLaw" 128 ⟨"MetreFractionsModel", "weight", "(I)I"⟩) ∈ tbg := tb_in (List.mem_of_getElem? (i := 1012) (by decide +kernel)) rfl
theorem wm1013 : (Cond.instanceMethod ⟨"MetreFractionsModel", "weight", "(I)I"⟩) ∈ tbg := tb_in (List.mem_of_getElem? (i := 1013) (by decide +kernel)) rfl
theorem wm1014 : (Cond.selects "MetreFractionsModel" ⟨"MetreFractionsModel", "weight", "(I)I"⟩ ⟨"MetreFractionsModel", "weight", "(I)I"⟩) ∈ tbg := tb_in (List.mem_of_getElem? (i := 1014) (by decide +kernel)) rfl
set_option maxRecDepth 100000 in
theorem wm1015 : (Cond.code ⟨"MetreFractionsModel", "weight", "(I)I"⟩ prog_11_method_48_code 2 (Option.some .int)) ∈ tbg := tb_in (List.mem_of_getElem? (i := 1015) (rfl)) rfl
theorem wm1016 : (Cond.methodLink "MetreFractionsLaw" 132 ⟨"MetreFractionsModel", "noWeights", "()I"⟩) ∈ tbg := tb_in (List.mem_of_getElem? (i := 1016) (by decide +kernel)) rfl
theorem wm1017 : (Cond.instanceMethod ⟨"MetreFractionsModel", "noWeights", "()I"⟩) ∈ tbg := tb_in (List.mem_of_getElem? (i := 1017) (by decide +kernel)) rfl
theorem wm1018 : (Cond.selects "MetreFractionsModel" ⟨"MetreFractionsModel", "noWeights", "()I"⟩ ⟨"MetreFractionsModel", "noWeights", "()I"⟩) ∈ tbg := tb_in (List.mem_of_getElem? (i := 1018) (by decide +kernel)) rfl
set_option maxRecDepth 100000 in
theorem wm1019 : (Cond.code ⟨"MetreFractionsModel", "noWeights", "()I"⟩ prog_11_method_49_code 2 (Option.some .int)) ∈ tbg := tb_in (List.mem_of_getElem? (i := 1019) (rfl)) rfl
theorem wm1020 : (Cond.methodLink "MetreFractionsLaw" 136 ⟨"MetreFractionsModel", "share", "(JI)J"⟩) ∈ tbg := tb_in (List.mem_of_getElem? (i := 1020) (by decide +kernel)) rfl
theorem wm1021 : (Cond.instanceMethod ⟨"MetreFractionsModel", "share", "(JI)J"⟩) ∈ tbg := tb_in (List.mem_of_getElem? (i := 1021) (by decide +kernel)) rfl
theorem wm1022 : (Cond.selects "MetreFractionsModel" ⟨"MetreFractionsModel", "share", "(JI)J"⟩ ⟨"MetreFractionsModel", "share", "(JI)J"⟩) ∈ tbg := tb_in (List.mem_of_getElem? (i := 1022) (by decide +kernel)) rfl
set_option maxRecDepth 100000 in
theorem wm1023 : (Cond.code ⟨"MetreFractionsModel", "share", "(JI)J"⟩ prog_11_method_50_code 15 (Option.some .long)) ∈ tbg := tb_in (List.mem_of_getElem? (i := 1023) (rfl)) rfl
theorem wm1024 : (Cond.constantLong "MetreFractionsModel" 196 1000000000000) ∈ tbg := tb_in (List.mem_of_getElem? (i := 1024) (by decide +kernel)) rfl
theorem wm1025 : (Cond.constantLong "MetreFractionsModel" 198 100000) ∈ tbg := tb_in (List.mem_of_getElem? (i := 1025) (by decide +kernel)) rfl
theorem wm1026 : (Cond.constantLong "MetreFractionsModel" 200 (-1)) ∈ tbg := tb_in (List.mem_of_getElem? (i := 1026) (by decide +kernel)) rfl
theorem wm1027 : (Cond.constantLong "MetreFractionsLaw" 68 4294967295) ∈ tbg := tb_in (List.mem_of_getElem? (i := 1027) (by decide +kernel)) rfl
theorem ws0 : (Cond.selects "java/lang/Throwable" ⟨"java/lang/Throwable", "fillInStackTrace", "(I)Ljava/lang/Throwable;"⟩ ⟨"java/lang/Throwable", "fillInStackTrace", "(I)Ljava/lang/Throwable;"⟩) ∈ tbg := tb_sel (List.mem_of_getElem? (i := 0) (by decide +kernel)) rfl
theorem ws1 : (Cond.selects "MetreFractions" ⟨"MetreFractions", "isFull", "()Z"⟩ ⟨"MetreFractions", "isFull", "()Z"⟩) ∈ tbg := tb_sel (List.mem_of_getElem? (i := 1) (by decide +kernel)) rfl
theorem ws2 : (Cond.selects "MetreFractions$Calculator" ⟨"MetreFractions$Calculator", "setReduced", "(LMetreFractions$Fraction;LMetreFractions$Natural;LMetreFractions$Natural;)V"⟩ ⟨"MetreFractions$Calculator", "setReduced", "(LMetreFractions$Fraction;LMetreFractions$Natural;LMetreFractions$Natural;)V"⟩) ∈ tbg := tb_sel (List.mem_of_getElem? (i := 2) (by decide +kernel)) rfl
theorem ws3 : (Cond.selects "MetreFractions$CommonDivisor" ⟨"MetreFractions$CommonDivisor", "findFactors", "()Z"⟩ ⟨"MetreFractions$CommonDivisor", "findFactors", "()Z"⟩) ∈ tbg := tb_sel (List.mem_of_getElem? (i := 3) (by decide +kernel)) rfl
theorem ws4 : (Cond.selects "MetreFractions$CommonDivisor" ⟨"MetreFractions$CommonDivisor", "useFactors", "()V"⟩ ⟨"MetreFractions$CommonDivisor", "useFactors", "()V"⟩) ∈ tbg := tb_sel (List.mem_of_getElem? (i := 4) (by decide +kernel)) rfl
theorem ws5 : (Cond.selects "MetreFractions$Divider" ⟨"MetreFractions$Divider", "divideScaled", "(I)V"⟩ ⟨"MetreFractions$Divider", "divideScaled", "(I)V"⟩) ∈ tbg := tb_sel (List.mem_of_getElem? (i := 5) (by decide +kernel)) rfl
theorem ws6 : (Cond.selects "MetreFractions$Divider" ⟨"MetreFractions$Divider", "guessLimb", "(I)I"⟩ ⟨"MetreFractions$Divider", "guessLimb", "(I)I"⟩) ∈ tbg := tb_sel (List.mem_of_getElem? (i := 6) (by decide +kernel)) rfl
theorem ws7 : (Cond.selects "MetreFractions$Divider" ⟨"MetreFractions$Divider", "subtract", "(IJ)Z"⟩ ⟨"MetreFractions$Divider", "subtract", "(IJ)Z"⟩) ∈ tbg := tb_sel (List.mem_of_getElem? (i := 7) (by decide +kernel)) rfl
theorem ws8 : (Cond.selects "MetreFractions$Divider" ⟨"MetreFractions$Divider", "giveBack", "(I)V"⟩ ⟨"MetreFractions$Divider", "giveBack", "(I)V"⟩) ∈ tbg := tb_sel (List.mem_of_getElem? (i := 8) (by decide +kernel)) rfl
theorem ws9 : (Cond.selects "MetreFractions$Calculator" ⟨"MetreFractions$Calculator", "setQuotient", "(LMetreFractions$Natural;LMetreFractions$Natural;LMetreFractions$Natural;)V"⟩ ⟨"MetreFractions$Calculator", "setQuotient", "(LMetreFractions$Natural;LMetreFractions$Natural;LMetreFractions$Natural;)V"⟩) ∈ tbg := tb_sel (List.mem_of_getElem? (i := 9) (by decide +kernel)) rfl
theorem ws10 : (Cond.selects "MetreFractions" ⟨"MetreFractions", "keep", "(LMetreFractions$Fraction;I)I"⟩ ⟨"MetreFractions", "keep", "(LMetreFractions$Fraction;I)I"⟩) ∈ tbg := tb_sel (List.mem_of_getElem? (i := 10) (by decide +kernel)) rfl
theorem ws11 : (Cond.selects "MetreFractions" ⟨"MetreFractions", "valueOf", "(I)LMetreFractions$Value;"⟩ ⟨"MetreFractions", "valueOf", "(I)LMetreFractions$Value;"⟩) ∈ tbg := tb_sel (List.mem_of_getElem? (i := 11) (by decide +kernel)) rfl
theorem ws12 : (Cond.selects "MetreFractions$Calculator" ⟨"MetreFractions$Calculator", "joinParts", "(II)I"⟩ ⟨"MetreFractions$Calculator", "joinParts", "(II)I"⟩) ∈ tbg := tb_sel (List.mem_of_getElem? (i := 12) (by decide +kernel)) rfl
theorem ws13 : (Cond.selects "MetreFractions$Calculator" ⟨"MetreFractions$Calculator", "goesFurther", "(LMetreFractions$Fraction;I)Z"⟩ ⟨"MetreFractions$Calculator", "goesFurther", "(LMetreFractions$Fraction;I)Z"⟩) ∈ tbg := tb_sel (List.mem_of_getElem? (i := 13) (by decide +kernel)) rfl
theorem ws14 : (Cond.selects "MetreFractions" ⟨"MetreFractions", "rowOf", "(I)LMetreFractions$Row;"⟩ ⟨"MetreFractions", "rowOf", "(I)LMetreFractions$Row;"⟩) ∈ tbg := tb_sel (List.mem_of_getElem? (i := 14) (by decide +kernel)) rfl
theorem ws15 : (Cond.selects "MetreFractions" ⟨"MetreFractions", "cornerNotBefore", "(LMetreFractions$Row;LMetreFractions$Fraction;)I"⟩ ⟨"MetreFractions", "cornerNotBefore", "(LMetreFractions$Row;LMetreFractions$Fraction;)I"⟩) ∈ tbg := tb_sel (List.mem_of_getElem? (i := 15) (by decide +kernel)) rfl
theorem ws16 : (Cond.selects "MetreFractions" ⟨"MetreFractions", "setHeight", "(LMetreFractions$Row;ILMetreFractions$Fraction;)V"⟩ ⟨"MetreFractions", "setHeight", "(LMetreFractions$Row;ILMetreFractions$Fraction;)V"⟩) ∈ tbg := tb_sel (List.mem_of_getElem? (i := 16) (by decide +kernel)) rfl
theorem ws17 : (Cond.selects "MetreFractions" ⟨"MetreFractions", "addStrip", "(LMetreFractions$Row;I)V"⟩ ⟨"MetreFractions", "addStrip", "(LMetreFractions$Row;I)V"⟩) ∈ tbg := tb_sel (List.mem_of_getElem? (i := 17) (by decide +kernel)) rfl
theorem ws18 : (Cond.selects "MetreFractions$Weights" ⟨"MetreFractions$Weights", "total", "()J"⟩ ⟨"MetreFractions$Weights", "total", "()J"⟩) ∈ tbg := tb_sel (List.mem_of_getElem? (i := 18) (by decide +kernel)) rfl
theorem ws19 : (Cond.selects "MetreFractions$Weights" ⟨"MetreFractions$Weights", "comesBefore", "(I)I"⟩ ⟨"MetreFractions$Weights", "comesBefore", "(I)I"⟩) ∈ tbg := tb_sel (List.mem_of_getElem? (i := 19) (by decide +kernel)) rfl
theorem ws20 : (Cond.selects "MetreFractionsModel" ⟨"MetreFractionsModel", "setSize", "(IJ)V"⟩ ⟨"MetreFractionsModel", "setSize", "(IJ)V"⟩) ∈ tbg := tb_sel (List.mem_of_getElem? (i := 20) (by decide +kernel)) rfl
theorem ws21 : (Cond.selects "MetreFractionsModel" ⟨"MetreFractionsModel", "set", "(IJ)V"⟩ ⟨"MetreFractionsModel", "set", "(IJ)V"⟩) ∈ tbg := tb_sel (List.mem_of_getElem? (i := 21) (by decide +kernel)) rfl
theorem ws22 : (Cond.selects "MetreFractionsModel" ⟨"MetreFractionsModel", "reduce", "()V"⟩ ⟨"MetreFractionsModel", "reduce", "()V"⟩) ∈ tbg := tb_sel (List.mem_of_getElem? (i := 22) (by decide +kernel)) rfl
theorem ws23 : (Cond.selects "MetreFractionsModel" ⟨"MetreFractionsModel", "copy", "(II)V"⟩ ⟨"MetreFractionsModel", "copy", "(II)V"⟩) ∈ tbg := tb_sel (List.mem_of_getElem? (i := 23) (by decide +kernel)) rfl
theorem ws24 : (Cond.selects "MetreFractionsModel" ⟨"MetreFractionsModel", "divide", "(II)V"⟩ ⟨"MetreFractionsModel", "divide", "(II)V"⟩) ∈ tbg := tb_sel (List.mem_of_getElem? (i := 24) (by decide +kernel)) rfl
theorem ws25 : (Cond.selects "MetreFractionsModel" ⟨"MetreFractionsModel", "compare", "(II)I"⟩ ⟨"MetreFractionsModel", "compare", "(II)I"⟩) ∈ tbg := tb_sel (List.mem_of_getElem? (i := 25) (by decide +kernel)) rfl
theorem ws26 : (Cond.selects "MetreFractionsModel" ⟨"MetreFractionsModel", "small", "(IJ)J"⟩ ⟨"MetreFractionsModel", "small", "(IJ)J"⟩) ∈ tbg := tb_sel (List.mem_of_getElem? (i := 26) (by decide +kernel)) rfl
theorem ws27 : (Cond.selects "MetreFractionsModel" ⟨"MetreFractionsModel", "trim", "(I)V"⟩ ⟨"MetreFractionsModel", "trim", "(I)V"⟩) ∈ tbg := tb_sel (List.mem_of_getElem? (i := 27) (by decide +kernel)) rfl
theorem ws28 : (Cond.selects "MetreFractionsModel" ⟨"MetreFractionsModel", "scale", "(IJ)V"⟩ ⟨"MetreFractionsModel", "scale", "(IJ)V"⟩) ∈ tbg := tb_sel (List.mem_of_getElem? (i := 28) (by decide +kernel)) rfl
theorem ws29 : (Cond.selects "MetreFractionsModel" ⟨"MetreFractionsModel", "takeOff", "(IIII)Z"⟩ ⟨"MetreFractionsModel", "takeOff", "(IIII)Z"⟩) ∈ tbg := tb_sel (List.mem_of_getElem? (i := 29) (by decide +kernel)) rfl
theorem ws30 : (Cond.selects "MetreFractionsModel" ⟨"MetreFractionsModel", "putOn", "(III)V"⟩ ⟨"MetreFractionsModel", "putOn", "(III)V"⟩) ∈ tbg := tb_sel (List.mem_of_getElem? (i := 30) (by decide +kernel)) rfl
theorem ws31 : (Cond.selects "MetreFractionsModel" ⟨"MetreFractionsModel", "keep", "(I)I"⟩ ⟨"MetreFractionsModel", "keep", "(I)I"⟩) ∈ tbg := tb_sel (List.mem_of_getElem? (i := 31) (by decide +kernel)) rfl
theorem ws32 : (Cond.selects "MetreFractionsModel" ⟨"MetreFractionsModel", "digits", "(I)I"⟩ ⟨"MetreFractionsModel", "digits", "(I)I"⟩) ∈ tbg := tb_sel (List.mem_of_getElem? (i := 32) (by decide +kernel)) rfl
theorem ws33 : (Cond.selects "MetreFractionsModel" ⟨"MetreFractionsModel", "isValue", "(I)Z"⟩ ⟨"MetreFractionsModel", "isValue", "(I)Z"⟩) ∈ tbg := tb_sel (List.mem_of_getElem? (i := 33) (by decide +kernel)) rfl
theorem ws34 : (Cond.selects "MetreFractionsModel" ⟨"MetreFractionsModel", "load", "(I)V"⟩ ⟨"MetreFractionsModel", "load", "(I)V"⟩) ∈ tbg := tb_sel (List.mem_of_getElem? (i := 34) (by decide +kernel)) rfl
theorem ws35 : (Cond.selects "MetreFractionsModel" ⟨"MetreFractionsModel", "take", "(III)V"⟩ ⟨"MetreFractionsModel", "take", "(III)V"⟩) ∈ tbg := tb_sel (List.mem_of_getElem? (i := 35) (by decide +kernel)) rfl
theorem ws36 : (Cond.selects "MetreFractionsModel" ⟨"MetreFractionsModel", "loadOther", "(I)V"⟩ ⟨"MetreFractionsModel", "loadOther", "(I)V"⟩) ∈ tbg := tb_sel (List.mem_of_getElem? (i := 36) (by decide +kernel)) rfl
theorem ws37 : (Cond.selects "MetreFractionsModel" ⟨"MetreFractionsModel", "addOther", "(I)V"⟩ ⟨"MetreFractionsModel", "addOther", "(I)V"⟩) ∈ tbg := tb_sel (List.mem_of_getElem? (i := 37) (by decide +kernel)) rfl
theorem ws38 : (Cond.selects "MetreFractionsModel" ⟨"MetreFractionsModel", "multiply", "(III)V"⟩ ⟨"MetreFractionsModel", "multiply", "(III)V"⟩) ∈ tbg := tb_sel (List.mem_of_getElem? (i := 38) (by decide +kernel)) rfl
theorem ws39 : (Cond.selects "MetreFractionsModel" ⟨"MetreFractionsModel", "plus", "(II)V"⟩ ⟨"MetreFractionsModel", "plus", "(II)V"⟩) ∈ tbg := tb_sel (List.mem_of_getElem? (i := 39) (by decide +kernel)) rfl
theorem ws40 : (Cond.selects "MetreFractionsModel" ⟨"MetreFractionsModel", "limb", "(II)I"⟩ ⟨"MetreFractionsModel", "limb", "(II)I"⟩) ∈ tbg := tb_sel (List.mem_of_getElem? (i := 40) (by decide +kernel)) rfl
theorem ws41 : (Cond.selects "MetreFractionsModel" ⟨"MetreFractionsModel", "subtract", "(II)V"⟩ ⟨"MetreFractionsModel", "subtract", "(II)V"⟩) ∈ tbg := tb_sel (List.mem_of_getElem? (i := 41) (by decide +kernel)) rfl
theorem ws42 : (Cond.selects "MetreFractionsModel" ⟨"MetreFractionsModel", "timesOther", "()V"⟩ ⟨"MetreFractionsModel", "timesOther", "()V"⟩) ∈ tbg := tb_sel (List.mem_of_getElem? (i := 42) (by decide +kernel)) rfl
theorem ws43 : (Cond.selects "MetreFractionsModel" ⟨"MetreFractionsModel", "overOther", "()V"⟩ ⟨"MetreFractionsModel", "overOther", "()V"⟩) ∈ tbg := tb_sel (List.mem_of_getElem? (i := 43) (by decide +kernel)) rfl
theorem ws44 : (Cond.selects "MetreFractionsModel" ⟨"MetreFractionsModel", "compareValues", "(II)I"⟩ ⟨"MetreFractionsModel", "compareValues", "(II)I"⟩) ∈ tbg := tb_sel (List.mem_of_getElem? (i := 44) (by decide +kernel)) rfl
theorem ws45 : (Cond.selects "MetreFractionsModel" ⟨"MetreFractionsModel", "isRow", "(I)Z"⟩ ⟨"MetreFractionsModel", "isRow", "(I)Z"⟩) ∈ tbg := tb_sel (List.mem_of_getElem? (i := 45) (by decide +kernel)) rfl
theorem ws46 : (Cond.selects "MetreFractionsModel" ⟨"MetreFractionsModel", "stash", "()V"⟩ ⟨"MetreFractionsModel", "stash", "()V"⟩) ∈ tbg := tb_sel (List.mem_of_getElem? (i := 46) (by decide +kernel)) rfl
theorem ws47 : (Cond.selects "MetreFractionsModel" ⟨"MetreFractionsModel", "unstash", "()V"⟩ ⟨"MetreFractionsModel", "unstash", "()V"⟩) ∈ tbg := tb_sel (List.mem_of_getElem? (i := 47) (by decide +kernel)) rfl
theorem ws48 : (Cond.selects "MetreFractionsModel" ⟨"MetreFractionsModel", "exchange", "()V"⟩ ⟨"MetreFractionsModel", "exchange", "()V"⟩) ∈ tbg := tb_sel (List.mem_of_getElem? (i := 48) (by decide +kernel)) rfl
theorem ws49 : (Cond.selects "MetreFractionsModel" ⟨"MetreFractionsModel", "addHalf", "(II)V"⟩ ⟨"MetreFractionsModel", "addHalf", "(II)V"⟩) ∈ tbg := tb_sel (List.mem_of_getElem? (i := 49) (by decide +kernel)) rfl
