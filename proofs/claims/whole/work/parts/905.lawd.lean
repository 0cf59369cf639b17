/-! ===== THE LAW: its wrappers, by name (printed by wip/whole/gen/spec_la1.py) ===== -/
abbrev y_La_value : MethodName := ⟨"MetreFractionsLaw", "value", "(LMetreFractions;JJI[J)I"⟩
set_option maxRecDepth 100000 in
theorem wm292 : (Cond.codeWith y_La_value method_3_code 8 (Option.some .int : Option FieldType) [(0, 13, 16, 13), (0, 13, 20, 15)]) ∈ tbg := tb_in (List.mem_of_getElem? (i := 292) rfl) rfl
abbrev w_La_value : List Cond := Cond.codeWith y_La_value method_3_code 8 (Option.some .int : Option FieldType) [(0, 13, 16, 13), (0, 13, 20, 15)] :: tbg
theorem k_La_value : ∀ w ∈ w_La_value, w ∈ tbg := tb_cons wm292 tb_self
abbrev y_La_add : MethodName := ⟨"MetreFractionsLaw", "add", "(LMetreFractions;IIZ[J)I"⟩
set_option maxRecDepth 100000 in
theorem wm533 : (Cond.codeWith y_La_add method_4_code 6 (Option.some .int : Option FieldType) [(0, 12, 15, 21)]) ∈ tbg := tb_in (List.mem_of_getElem? (i := 533) rfl) rfl
abbrev w_La_add : List Cond := Cond.codeWith y_La_add method_4_code 6 (Option.some .int : Option FieldType) [(0, 12, 15, 21)] :: tbg
theorem k_La_add : ∀ w ∈ w_La_add, w ∈ tbg := tb_cons wm533 tb_self
abbrev y_La_times : MethodName := ⟨"MetreFractionsLaw", "times", "(LMetreFractions;II[J)I"⟩
set_option maxRecDepth 100000 in
theorem wm583 : (Cond.codeWith y_La_times method_5_code 5 (Option.some .int : Option FieldType) [(0, 10, 13, 21)]) ∈ tbg := tb_in (List.mem_of_getElem? (i := 583) rfl) rfl
abbrev w_La_times : List Cond := Cond.codeWith y_La_times method_5_code 5 (Option.some .int : Option FieldType) [(0, 10, 13, 21)] :: tbg
theorem k_La_times : ∀ w ∈ w_La_times, w ∈ tbg := tb_cons wm583 tb_self
abbrev y_La_over : MethodName := ⟨"MetreFractionsLaw", "over", "(LMetreFractions;II[J)I"⟩
set_option maxRecDepth 100000 in
theorem wm594 : (Cond.codeWith y_La_over method_6_code 5 (Option.some .int : Option FieldType) [(0, 10, 13, 21), (0, 10, 17, 13)]) ∈ tbg := tb_in (List.mem_of_getElem? (i := 594) rfl) rfl
abbrev w_La_over : List Cond := Cond.codeWith y_La_over method_6_code 5 (Option.some .int : Option FieldType) [(0, 10, 13, 21), (0, 10, 17, 13)] :: tbg
theorem k_La_over : ∀ w ∈ w_La_over, w ∈ tbg := tb_cons wm594 tb_self
abbrev y_La_order : MethodName := ⟨"MetreFractionsLaw", "order", "(LMetreFractions;II[J)I"⟩
set_option maxRecDepth 100000 in
theorem wm601 : (Cond.codeWith y_La_order method_7_code 5 (Option.some .int : Option FieldType) [(0, 10, 13, 21)]) ∈ tbg := tb_in (List.mem_of_getElem? (i := 601) rfl) rfl
abbrev w_La_order : List Cond := Cond.codeWith y_La_order method_7_code 5 (Option.some .int : Option FieldType) [(0, 10, 13, 21)] :: tbg
theorem k_La_order : ∀ w ∈ w_La_order, w ∈ tbg := tb_cons wm601 tb_self
abbrev y_La_round : MethodName := ⟨"MetreFractionsLaw", "round", "(LMetreFractions;III[J)I"⟩
set_option maxRecDepth 100000 in
theorem wm612 : (Cond.codeWith y_La_round method_8_code 6 (Option.some .int : Option FieldType) [(0, 12, 15, 21), (0, 12, 19, 15)]) ∈ tbg := tb_in (List.mem_of_getElem? (i := 612) rfl) rfl
abbrev w_La_round : List Cond := Cond.codeWith y_La_round method_8_code 6 (Option.some .int : Option FieldType) [(0, 12, 15, 21), (0, 12, 19, 15)] :: tbg
theorem k_La_round : ∀ w ∈ w_La_round, w ∈ tbg := tb_cons wm612 tb_self
abbrev y_La_prism : MethodName := ⟨"MetreFractionsLaw", "prism", "(LMetreFractions;IIII[J)I"⟩
set_option maxRecDepth 100000 in
theorem wm638 : (Cond.codeWith y_La_prism method_9_code 7 (Option.some .int : Option FieldType) [(0, 14, 17, 21)]) ∈ tbg := tb_in (List.mem_of_getElem? (i := 638) rfl) rfl
abbrev w_La_prism : List Cond := Cond.codeWith y_La_prism method_9_code 7 (Option.some .int : Option FieldType) [(0, 14, 17, 21)] :: tbg
theorem k_La_prism : ∀ w ∈ w_La_prism, w ∈ tbg := tb_cons wm638 tb_self
abbrev y_La_told : MethodName := ⟨"MetreFractionsLaw", "told", "(LMetreFractions;II[J)I"⟩
set_option maxRecDepth 100000 in
theorem wm645 : (Cond.codeWith y_La_told method_10_code 5 (Option.some .int : Option FieldType) [(0, 10, 13, 21), (0, 10, 17, 15)]) ∈ tbg := tb_in (List.mem_of_getElem? (i := 645) rfl) rfl
abbrev w_La_told : List Cond := Cond.codeWith y_La_told method_10_code 5 (Option.some .int : Option FieldType) [(0, 10, 13, 21), (0, 10, 17, 15)] :: tbg
theorem k_La_told : ∀ w ∈ w_La_told, w ∈ tbg := tb_cons wm645 tb_self
abbrev y_La_digit : MethodName := ⟨"MetreFractionsLaw", "digit", "(LMetreFractions;III[J)I"⟩
set_option maxRecDepth 100000 in
theorem wm654 : (Cond.codeWith y_La_digit method_11_code 6 (Option.some .int : Option FieldType) [(0, 12, 15, 21), (0, 12, 19, 15)]) ∈ tbg := tb_in (List.mem_of_getElem? (i := 654) rfl) rfl
abbrev w_La_digit : List Cond := Cond.codeWith y_La_digit method_11_code 6 (Option.some .int : Option FieldType) [(0, 12, 15, 21), (0, 12, 19, 15)] :: tbg
theorem k_La_digit : ∀ w ∈ w_La_digit, w ∈ tbg := tb_cons wm654 tb_self
abbrev y_La_corner : MethodName := ⟨"MetreFractionsLaw", "corner", "(LMetreFractions;III[J)I"⟩
set_option maxRecDepth 100000 in
theorem wm667 : (Cond.codeWith y_La_corner method_12_code 6 (Option.some .int : Option FieldType) [(0, 12, 15, 21)]) ∈ tbg := tb_in (List.mem_of_getElem? (i := 667) rfl) rfl
abbrev w_La_corner : List Cond := Cond.codeWith y_La_corner method_12_code 6 (Option.some .int : Option FieldType) [(0, 12, 15, 21)] :: tbg
theorem k_La_corner : ∀ w ∈ w_La_corner, w ∈ tbg := tb_cons wm667 tb_self
abbrev y_La_at : MethodName := ⟨"MetreFractionsLaw", "at", "(LMetreFractions;II[J)I"⟩
set_option maxRecDepth 100000 in
theorem wm683 : (Cond.codeWith y_La_at method_13_code 5 (Option.some .int : Option FieldType) [(0, 10, 13, 21)]) ∈ tbg := tb_in (List.mem_of_getElem? (i := 683) rfl) rfl
abbrev w_La_at : List Cond := Cond.codeWith y_La_at method_13_code 5 (Option.some .int : Option FieldType) [(0, 10, 13, 21)] :: tbg
theorem k_La_at : ∀ w ∈ w_La_at, w ∈ tbg := tb_cons wm683 tb_self
abbrev y_La_area : MethodName := ⟨"MetreFractionsLaw", "area", "(LMetreFractions;I[J)I"⟩
set_option maxRecDepth 100000 in
theorem wm699 : (Cond.codeWith y_La_area method_14_code 4 (Option.some .int : Option FieldType) [(0, 9, 12, 21)]) ∈ tbg := tb_in (List.mem_of_getElem? (i := 699) rfl) rfl
abbrev w_La_area : List Cond := Cond.codeWith y_La_area method_14_code 4 (Option.some .int : Option FieldType) [(0, 9, 12, 21)] :: tbg
theorem k_La_area : ∀ w ∈ w_La_area, w ∈ tbg := tb_cons wm699 tb_self
abbrev y_La_weight : MethodName := ⟨"MetreFractionsLaw", "weight", "(LMetreFractions;I[J)I"⟩
set_option maxRecDepth 100000 in
theorem wm710 : (Cond.codeWith y_La_weight method_15_code 4 (Option.some .int : Option FieldType) [(0, 9, 12, 15)]) ∈ tbg := tb_in (List.mem_of_getElem? (i := 710) rfl) rfl
abbrev w_La_weight : List Cond := Cond.codeWith y_La_weight method_15_code 4 (Option.some .int : Option FieldType) [(0, 9, 12, 15)] :: tbg
theorem k_La_weight : ∀ w ∈ w_La_weight, w ∈ tbg := tb_cons wm710 tb_self
abbrev y_La_share : MethodName := ⟨"MetreFractionsLaw", "share", "(LMetreFractions;JI[J)I"⟩
set_option maxRecDepth 100000 in
theorem wm722 : (Cond.codeWith y_La_share method_16_code 6 (Option.some .int : Option FieldType) [(0, 10, 13, 21), (0, 10, 17, 15)]) ∈ tbg := tb_in (List.mem_of_getElem? (i := 722) rfl) rfl
abbrev w_La_share : List Cond := Cond.codeWith y_La_share method_16_code 6 (Option.some .int : Option FieldType) [(0, 10, 13, 21), (0, 10, 17, 15)] :: tbg
theorem k_La_share : ∀ w ∈ w_La_share, w ∈ tbg := tb_cons wm722 tb_self
theorem d_La_value_0 : decode method_3_code 0 = .ok (.aload 6, 2) := by decide +kernel
theorem d_La_value_2 : decode method_3_code 2 = .ok (.iconst 0, 1) := by decide +kernel
theorem d_La_value_3 : decode method_3_code 3 = .ok (.aload_n 0, 1) := by decide +kernel
theorem d_La_value_4 : decode method_3_code 4 = .ok (.lload_n 1, 1) := by decide +kernel
theorem d_La_value_5 : decode method_3_code 5 = .ok (.lload_n 3, 1) := by decide +kernel
theorem d_La_value_6 : decode method_3_code 6 = .ok (.iload 5, 2) := by decide +kernel
theorem d_La_value_8 : decode method_3_code 8 = .ok (.invokevirtual 7, 3) := by decide +kernel
theorem d_La_value_11 : decode method_3_code 11 = .ok (.i2l, 1) := by decide +kernel
theorem d_La_value_12 : decode method_3_code 12 = .ok (.lastore, 1) := by decide +kernel
theorem d_La_value_13 : decode method_3_code 13 = .ok (.goto 11, 3) := by decide +kernel
theorem d_La_value_16 : decode method_3_code 16 = .ok (.astore 7, 2) := by decide +kernel
theorem d_La_value_18 : decode method_3_code 18 = .ok (.iconst 1, 1) := by decide +kernel
theorem d_La_value_19 : decode method_3_code 19 = .ok (.ireturn, 1) := by decide +kernel
theorem d_La_value_20 : decode method_3_code 20 = .ok (.astore 7, 2) := by decide +kernel
theorem d_La_value_22 : decode method_3_code 22 = .ok (.iconst 2, 1) := by decide +kernel
theorem d_La_value_23 : decode method_3_code 23 = .ok (.ireturn, 1) := by decide +kernel
theorem d_La_value_24 : decode method_3_code 24 = .ok (.iconst 0, 1) := by decide +kernel
theorem d_La_value_25 : decode method_3_code 25 = .ok (.ireturn, 1) := by decide +kernel
theorem d_La_add_0 : decode method_4_code 0 = .ok (.aload 4, 2) := by decide +kernel
theorem d_La_add_2 : decode method_4_code 2 = .ok (.iconst 0, 1) := by decide +kernel
theorem d_La_add_3 : decode method_4_code 3 = .ok (.aload_n 0, 1) := by decide +kernel
theorem d_La_add_4 : decode method_4_code 4 = .ok (.iload_n 1, 1) := by decide +kernel
theorem d_La_add_5 : decode method_4_code 5 = .ok (.iload_n 2, 1) := by decide +kernel
theorem d_La_add_6 : decode method_4_code 6 = .ok (.iload_n 3, 1) := by decide +kernel
theorem d_La_add_7 : decode method_4_code 7 = .ok (.invokevirtual 17, 3) := by decide +kernel
theorem d_La_add_10 : decode method_4_code 10 = .ok (.i2l, 1) := by decide +kernel
theorem d_La_add_11 : decode method_4_code 11 = .ok (.lastore, 1) := by decide +kernel
theorem d_La_add_12 : decode method_4_code 12 = .ok (.goto 7, 3) := by decide +kernel
theorem d_La_add_15 : decode method_4_code 15 = .ok (.astore 5, 2) := by decide +kernel
theorem d_La_add_17 : decode method_4_code 17 = .ok (.iconst 1, 1) := by decide +kernel
theorem d_La_add_18 : decode method_4_code 18 = .ok (.ireturn, 1) := by decide +kernel
theorem d_La_add_19 : decode method_4_code 19 = .ok (.iconst 0, 1) := by decide +kernel
theorem d_La_add_20 : decode method_4_code 20 = .ok (.ireturn, 1) := by decide +kernel
theorem d_La_times_0 : decode method_5_code 0 = .ok (.aload_n 3, 1) := by decide +kernel
theorem d_La_times_1 : decode method_5_code 1 = .ok (.iconst 0, 1) := by decide +kernel
theorem d_La_times_2 : decode method_5_code 2 = .ok (.aload_n 0, 1) := by decide +kernel
theorem d_La_times_3 : decode method_5_code 3 = .ok (.iload_n 1, 1) := by decide +kernel
theorem d_La_times_4 : decode method_5_code 4 = .ok (.iload_n 2, 1) := by decide +kernel
theorem d_La_times_5 : decode method_5_code 5 = .ok (.invokevirtual 23, 3) := by decide +kernel
theorem d_La_times_8 : decode method_5_code 8 = .ok (.i2l, 1) := by decide +kernel
theorem d_La_times_9 : decode method_5_code 9 = .ok (.lastore, 1) := by decide +kernel
theorem d_La_times_10 : decode method_5_code 10 = .ok (.goto 7, 3) := by decide +kernel
theorem d_La_times_13 : decode method_5_code 13 = .ok (.astore 4, 2) := by decide +kernel
theorem d_La_times_15 : decode method_5_code 15 = .ok (.iconst 1, 1) := by decide +kernel
theorem d_La_times_16 : decode method_5_code 16 = .ok (.ireturn, 1) := by decide +kernel
theorem d_La_times_17 : decode method_5_code 17 = .ok (.iconst 0, 1) := by decide +kernel
theorem d_La_times_18 : decode method_5_code 18 = .ok (.ireturn, 1) := by decide +kernel
theorem d_La_over_0 : decode method_6_code 0 = .ok (.aload_n 3, 1) := by decide +kernel
theorem d_La_over_1 : decode method_6_code 1 = .ok (.iconst 0, 1) := by decide +kernel
theorem d_La_over_2 : decode method_6_code 2 = .ok (.aload_n 0, 1) := by decide +kernel
theorem d_La_over_3 : decode method_6_code 3 = .ok (.iload_n 1, 1) := by decide +kernel
theorem d_La_over_4 : decode method_6_code 4 = .ok (.iload_n 2, 1) := by decide +kernel
theorem d_La_over_5 : decode method_6_code 5 = .ok (.invokevirtual 27, 3) := by decide +kernel
theorem d_La_over_8 : decode method_6_code 8 = .ok (.i2l, 1) := by decide +kernel
theorem d_La_over_9 : decode method_6_code 9 = .ok (.lastore, 1) := by decide +kernel
theorem d_La_over_10 : decode method_6_code 10 = .ok (.goto 11, 3) := by decide +kernel
theorem d_La_over_13 : decode method_6_code 13 = .ok (.astore 4, 2) := by decide +kernel
theorem d_La_over_15 : decode method_6_code 15 = .ok (.iconst 1, 1) := by decide +kernel
theorem d_La_over_16 : decode method_6_code 16 = .ok (.ireturn, 1) := by decide +kernel
theorem d_La_over_17 : decode method_6_code 17 = .ok (.astore 4, 2) := by decide +kernel
theorem d_La_over_19 : decode method_6_code 19 = .ok (.iconst 2, 1) := by decide +kernel
theorem d_La_over_20 : decode method_6_code 20 = .ok (.ireturn, 1) := by decide +kernel
theorem d_La_over_21 : decode method_6_code 21 = .ok (.iconst 0, 1) := by decide +kernel
theorem d_La_over_22 : decode method_6_code 22 = .ok (.ireturn, 1) := by decide +kernel
theorem d_La_order_0 : decode method_7_code 0 = .ok (.aload_n 3, 1) := by decide +kernel
theorem d_La_order_1 : decode method_7_code 1 = .ok (.iconst 0, 1) := by decide +kernel
theorem d_La_order_2 : decode method_7_code 2 = .ok (.aload_n 0, 1) := by decide +kernel
theorem d_La_order_3 : decode method_7_code 3 = .ok (.iload_n 1, 1) := by decide +kernel
theorem d_La_order_4 : decode method_7_code 4 = .ok (.iload_n 2, 1) := by decide +kernel
theorem d_La_order_5 : decode method_7_code 5 = .ok (.invokevirtual 30, 3) := by decide +kernel
theorem d_La_order_8 : decode method_7_code 8 = .ok (.i2l, 1) := by decide +kernel
theorem d_La_order_9 : decode method_7_code 9 = .ok (.lastore, 1) := by decide +kernel
theorem d_La_order_10 : decode method_7_code 10 = .ok (.goto 7, 3) := by decide +kernel
theorem d_La_order_13 : decode method_7_code 13 = .ok (.astore 4, 2) := by decide +kernel
theorem d_La_order_15 : decode method_7_code 15 = .ok (.iconst 1, 1) := by decide +kernel
theorem d_La_order_16 : decode method_7_code 16 = .ok (.ireturn, 1) := by decide +kernel
theorem d_La_order_17 : decode method_7_code 17 = .ok (.iconst 0, 1) := by decide +kernel
theorem d_La_order_18 : decode method_7_code 18 = .ok (.ireturn, 1) := by decide +kernel
theorem d_La_round_0 : decode method_8_code 0 = .ok (.aload 4, 2) := by decide +kernel
theorem d_La_round_2 : decode method_8_code 2 = .ok (.iconst 0, 1) := by decide +kernel
theorem d_La_round_3 : decode method_8_code 3 = .ok (.aload_n 0, 1) := by decide +kernel
theorem d_La_round_4 : decode method_8_code 4 = .ok (.iload_n 1, 1) := by decide +kernel
theorem d_La_round_5 : decode method_8_code 5 = .ok (.iload_n 2, 1) := by decide +kernel
theorem d_La_round_6 : decode method_8_code 6 = .ok (.iload_n 3, 1) := by decide +kernel
theorem d_La_round_7 : decode method_8_code 7 = .ok (.invokevirtual 33, 3) := by decide +kernel
theorem d_La_round_10 : decode method_8_code 10 = .ok (.i2l, 1) := by decide +kernel
theorem d_La_round_11 : decode method_8_code 11 = .ok (.lastore, 1) := by decide +kernel
theorem d_La_round_12 : decode method_8_code 12 = .ok (.goto 11, 3) := by decide +kernel
theorem d_La_round_15 : decode method_8_code 15 = .ok (.astore 5, 2) := by decide +kernel
theorem d_La_round_17 : decode method_8_code 17 = .ok (.iconst 1, 1) := by decide +kernel
theorem d_La_round_18 : decode method_8_code 18 = .ok (.ireturn, 1) := by decide +kernel
theorem d_La_round_19 : decode method_8_code 19 = .ok (.astore 5, 2) := by decide +kernel
theorem d_La_round_21 : decode method_8_code 21 = .ok (.iconst 2, 1) := by decide +kernel
theorem d_La_round_22 : decode method_8_code 22 = .ok (.ireturn, 1) := by decide +kernel
theorem d_La_round_23 : decode method_8_code 23 = .ok (.iconst 0, 1) := by decide +kernel
theorem d_La_round_24 : decode method_8_code 24 = .ok (.ireturn, 1) := by decide +kernel
theorem d_La_prism_0 : decode method_9_code 0 = .ok (.aload 5, 2) := by decide +kernel
theorem d_La_prism_2 : decode method_9_code 2 = .ok (.iconst 0, 1) := by decide +kernel
theorem d_La_prism_3 : decode method_9_code 3 = .ok (.aload_n 0, 1) := by decide +kernel
theorem d_La_prism_4 : decode method_9_code 4 = .ok (.iload_n 1, 1) := by decide +kernel
theorem d_La_prism_5 : decode method_9_code 5 = .ok (.iload_n 2, 1) := by decide +kernel
theorem d_La_prism_6 : decode method_9_code 6 = .ok (.iload_n 3, 1) := by decide +kernel
theorem d_La_prism_7 : decode method_9_code 7 = .ok (.iload 4, 2) := by decide +kernel
theorem d_La_prism_9 : decode method_9_code 9 = .ok (.invokevirtual 37, 3) := by decide +kernel
theorem d_La_prism_12 : decode method_9_code 12 = .ok (.i2l, 1) := by decide +kernel
theorem d_La_prism_13 : decode method_9_code 13 = .ok (.lastore, 1) := by decide +kernel
theorem d_La_prism_14 : decode method_9_code 14 = .ok (.goto 7, 3) := by decide +kernel
theorem d_La_prism_17 : decode method_9_code 17 = .ok (.astore 6, 2) := by decide +kernel
theorem d_La_prism_19 : decode method_9_code 19 = .ok (.iconst 1, 1) := by decide +kernel
theorem d_La_prism_20 : decode method_9_code 20 = .ok (.ireturn, 1) := by decide +kernel
theorem d_La_prism_21 : decode method_9_code 21 = .ok (.iconst 0, 1) := by decide +kernel
theorem d_La_prism_22 : decode method_9_code 22 = .ok (.ireturn, 1) := by decide +kernel
theorem d_La_told_0 : decode method_10_code 0 = .ok (.aload_n 3, 1) := by decide +kernel
theorem d_La_told_1 : decode method_10_code 1 = .ok (.iconst 0, 1) := by decide +kernel
theorem d_La_told_2 : decode method_10_code 2 = .ok (.aload_n 0, 1) := by decide +kernel
theorem d_La_told_3 : decode method_10_code 3 = .ok (.iload_n 1, 1) := by decide +kernel
theorem d_La_told_4 : decode method_10_code 4 = .ok (.iload_n 2, 1) := by decide +kernel
theorem d_La_told_5 : decode method_10_code 5 = .ok (.invokevirtual 41, 3) := by decide +kernel
theorem d_La_told_8 : decode method_10_code 8 = .ok (.i2l, 1) := by decide +kernel
theorem d_La_told_9 : decode method_10_code 9 = .ok (.lastore, 1) := by decide +kernel
theorem d_La_told_10 : decode method_10_code 10 = .ok (.goto 11, 3) := by decide +kernel
theorem d_La_told_13 : decode method_10_code 13 = .ok (.astore 4, 2) := by decide +kernel
theorem d_La_told_15 : decode method_10_code 15 = .ok (.iconst 1, 1) := by decide +kernel
theorem d_La_told_16 : decode method_10_code 16 = .ok (.ireturn, 1) := by decide +kernel
theorem d_La_told_17 : decode method_10_code 17 = .ok (.astore 4, 2) := by decide +kernel
theorem d_La_told_19 : decode method_10_code 19 = .ok (.iconst 2, 1) := by decide +kernel
theorem d_La_told_20 : decode method_10_code 20 = .ok (.ireturn, 1) := by decide +kernel
theorem d_La_told_21 : decode method_10_code 21 = .ok (.iconst 0, 1) := by decide +kernel
theorem d_La_told_22 : decode method_10_code 22 = .ok (.ireturn, 1) := by decide +kernel
theorem d_La_digit_0 : decode method_11_code 0 = .ok (.aload 4, 2) := by decide +kernel
theorem d_La_digit_2 : decode method_11_code 2 = .ok (.iconst 0, 1) := by decide +kernel
theorem d_La_digit_3 : decode method_11_code 3 = .ok (.aload_n 0, 1) := by decide +kernel
theorem d_La_digit_4 : decode method_11_code 4 = .ok (.iload_n 1, 1) := by decide +kernel
theorem d_La_digit_5 : decode method_11_code 5 = .ok (.iload_n 2, 1) := by decide +kernel
theorem d_La_digit_6 : decode method_11_code 6 = .ok (.iload_n 3, 1) := by decide +kernel
theorem d_La_digit_7 : decode method_11_code 7 = .ok (.invokevirtual 44, 3) := by decide +kernel
theorem d_La_digit_10 : decode method_11_code 10 = .ok (.i2l, 1) := by decide +kernel
theorem d_La_digit_11 : decode method_11_code 11 = .ok (.lastore, 1) := by decide +kernel
theorem d_La_digit_12 : decode method_11_code 12 = .ok (.goto 11, 3) := by decide +kernel
theorem d_La_digit_15 : decode method_11_code 15 = .ok (.astore 5, 2) := by decide +kernel
theorem d_La_digit_17 : decode method_11_code 17 = .ok (.iconst 1, 1) := by decide +kernel
theorem d_La_digit_18 : decode method_11_code 18 = .ok (.ireturn, 1) := by decide +kernel
theorem d_La_digit_19 : decode method_11_code 19 = .ok (.astore 5, 2) := by decide +kernel
theorem d_La_digit_21 : decode method_11_code 21 = .ok (.iconst 2, 1) := by decide +kernel
theorem d_La_digit_22 : decode method_11_code 22 = .ok (.ireturn, 1) := by decide +kernel
theorem d_La_digit_23 : decode method_11_code 23 = .ok (.iconst 0, 1) := by decide +kernel
theorem d_La_digit_24 : decode method_11_code 24 = .ok (.ireturn, 1) := by decide +kernel
theorem d_La_corner_0 : decode method_12_code 0 = .ok (.aload 4, 2) := by decide +kernel
theorem d_La_corner_2 : decode method_12_code 2 = .ok (.iconst 0, 1) := by decide +kernel
theorem d_La_corner_3 : decode method_12_code 3 = .ok (.aload_n 0, 1) := by decide +kernel
theorem d_La_corner_4 : decode method_12_code 4 = .ok (.iload_n 1, 1) := by decide +kernel
theorem d_La_corner_5 : decode method_12_code 5 = .ok (.iload_n 2, 1) := by decide +kernel
theorem d_La_corner_6 : decode method_12_code 6 = .ok (.iload_n 3, 1) := by decide +kernel
theorem d_La_corner_7 : decode method_12_code 7 = .ok (.invokevirtual 47, 3) := by decide +kernel
theorem d_La_corner_10 : decode method_12_code 10 = .ok (.i2l, 1) := by decide +kernel
theorem d_La_corner_11 : decode method_12_code 11 = .ok (.lastore, 1) := by decide +kernel
theorem d_La_corner_12 : decode method_12_code 12 = .ok (.goto 7, 3) := by decide +kernel
theorem d_La_corner_15 : decode method_12_code 15 = .ok (.astore 5, 2) := by decide +kernel
theorem d_La_corner_17 : decode method_12_code 17 = .ok (.iconst 1, 1) := by decide +kernel
theorem d_La_corner_18 : decode method_12_code 18 = .ok (.ireturn, 1) := by decide +kernel
theorem d_La_corner_19 : decode method_12_code 19 = .ok (.iconst 0, 1) := by decide +kernel
theorem d_La_corner_20 : decode method_12_code 20 = .ok (.ireturn, 1) := by decide +kernel
theorem d_La_at_0 : decode method_13_code 0 = .ok (.aload_n 3, 1) := by decide +kernel
theorem d_La_at_1 : decode method_13_code 1 = .ok (.iconst 0, 1) := by decide +kernel
theorem d_La_at_2 : decode method_13_code 2 = .ok (.aload_n 0, 1) := by decide +kernel
theorem d_La_at_3 : decode method_13_code 3 = .ok (.iload_n 1, 1) := by decide +kernel
theorem d_La_at_4 : decode method_13_code 4 = .ok (.iload_n 2, 1) := by decide +kernel
theorem d_La_at_5 : decode method_13_code 5 = .ok (.invokevirtual 50, 3) := by decide +kernel
theorem d_La_at_8 : decode method_13_code 8 = .ok (.i2l, 1) := by decide +kernel
theorem d_La_at_9 : decode method_13_code 9 = .ok (.lastore, 1) := by decide +kernel
theorem d_La_at_10 : decode method_13_code 10 = .ok (.goto 7, 3) := by decide +kernel
theorem d_La_at_13 : decode method_13_code 13 = .ok (.astore 4, 2) := by decide +kernel
theorem d_La_at_15 : decode method_13_code 15 = .ok (.iconst 1, 1) := by decide +kernel
theorem d_La_at_16 : decode method_13_code 16 = .ok (.ireturn, 1) := by decide +kernel
theorem d_La_at_17 : decode method_13_code 17 = .ok (.iconst 0, 1) := by decide +kernel
theorem d_La_at_18 : decode method_13_code 18 = .ok (.ireturn, 1) := by decide +kernel
theorem d_La_area_0 : decode method_14_code 0 = .ok (.aload_n 2, 1) := by decide +kernel
theorem d_La_area_1 : decode method_14_code 1 = .ok (.iconst 0, 1) := by decide +kernel
theorem d_La_area_2 : decode method_14_code 2 = .ok (.aload_n 0, 1) := by decide +kernel
theorem d_La_area_3 : decode method_14_code 3 = .ok (.iload_n 1, 1) := by decide +kernel
theorem d_La_area_4 : decode method_14_code 4 = .ok (.invokevirtual 53, 3) := by decide +kernel
theorem d_La_area_7 : decode method_14_code 7 = .ok (.i2l, 1) := by decide +kernel
theorem d_La_area_8 : decode method_14_code 8 = .ok (.lastore, 1) := by decide +kernel
theorem d_La_area_9 : decode method_14_code 9 = .ok (.goto 6, 3) := by decide +kernel
theorem d_La_area_12 : decode method_14_code 12 = .ok (.astore_n 3, 1) := by decide +kernel
theorem d_La_area_13 : decode method_14_code 13 = .ok (.iconst 1, 1) := by decide +kernel
theorem d_La_area_14 : decode method_14_code 14 = .ok (.ireturn, 1) := by decide +kernel
theorem d_La_area_15 : decode method_14_code 15 = .ok (.iconst 0, 1) := by decide +kernel
theorem d_La_area_16 : decode method_14_code 16 = .ok (.ireturn, 1) := by decide +kernel
theorem d_La_weight_0 : decode method_15_code 0 = .ok (.aload_n 2, 1) := by decide +kernel
theorem d_La_weight_1 : decode method_15_code 1 = .ok (.iconst 0, 1) := by decide +kernel
theorem d_La_weight_2 : decode method_15_code 2 = .ok (.aload_n 0, 1) := by decide +kernel
theorem d_La_weight_3 : decode method_15_code 3 = .ok (.iload_n 1, 1) := by decide +kernel
theorem d_La_weight_4 : decode method_15_code 4 = .ok (.invokevirtual 57, 3) := by decide +kernel
theorem d_La_weight_7 : decode method_15_code 7 = .ok (.i2l, 1) := by decide +kernel
theorem d_La_weight_8 : decode method_15_code 8 = .ok (.lastore, 1) := by decide +kernel
theorem d_La_weight_9 : decode method_15_code 9 = .ok (.goto 6, 3) := by decide +kernel
theorem d_La_weight_12 : decode method_15_code 12 = .ok (.astore_n 3, 1) := by decide +kernel
theorem d_La_weight_13 : decode method_15_code 13 = .ok (.iconst 1, 1) := by decide +kernel
theorem d_La_weight_14 : decode method_15_code 14 = .ok (.ireturn, 1) := by decide +kernel
theorem d_La_weight_15 : decode method_15_code 15 = .ok (.iconst 0, 1) := by decide +kernel
theorem d_La_weight_16 : decode method_15_code 16 = .ok (.ireturn, 1) := by decide +kernel
theorem d_La_share_0 : decode method_16_code 0 = .ok (.aload 4, 2) := by decide +kernel
theorem d_La_share_2 : decode method_16_code 2 = .ok (.iconst 0, 1) := by decide +kernel
theorem d_La_share_3 : decode method_16_code 3 = .ok (.aload_n 0, 1) := by decide +kernel
theorem d_La_share_4 : decode method_16_code 4 = .ok (.lload_n 1, 1) := by decide +kernel
theorem d_La_share_5 : decode method_16_code 5 = .ok (.iload_n 3, 1) := by decide +kernel
theorem d_La_share_6 : decode method_16_code 6 = .ok (.invokevirtual 60, 3) := by decide +kernel
theorem d_La_share_9 : decode method_16_code 9 = .ok (.lastore, 1) := by decide +kernel
theorem d_La_share_10 : decode method_16_code 10 = .ok (.goto 11, 3) := by decide +kernel
theorem d_La_share_13 : decode method_16_code 13 = .ok (.astore 5, 2) := by decide +kernel
theorem d_La_share_15 : decode method_16_code 15 = .ok (.iconst 1, 1) := by decide +kernel
theorem d_La_share_16 : decode method_16_code 16 = .ok (.ireturn, 1) := by decide +kernel
theorem d_La_share_17 : decode method_16_code 17 = .ok (.astore 5, 2) := by decide +kernel
theorem d_La_share_19 : decode method_16_code 19 = .ok (.iconst 2, 1) := by decide +kernel
theorem d_La_share_20 : decode method_16_code 20 = .ok (.ireturn, 1) := by decide +kernel
theorem d_La_share_21 : decode method_16_code 21 = .ok (.iconst 0, 1) := by decide +kernel
theorem d_La_share_22 : decode method_16_code 22 = .ok (.ireturn, 1) := by decide +kernel
theorem d_La_law_0 : decode code 0 = .ok (.new 8, 3) := by decide +kernel
theorem d_La_law_3 : decode code 3 = .ok (.dup, 1) := by decide +kernel
theorem d_La_law_4 : decode code 4 = .ok (.invokespecial 64, 3) := by decide +kernel
theorem d_La_law_7 : decode code 7 = .ok (.astore_n 1, 1) := by decide +kernel
theorem d_La_law_8 : decode code 8 = .ok (.new 65, 3) := by decide +kernel
theorem d_La_law_11 : decode code 11 = .ok (.dup, 1) := by decide +kernel
theorem d_La_law_12 : decode code 12 = .ok (.invokespecial 67, 3) := by decide +kernel
theorem d_La_law_15 : decode code 15 = .ok (.astore_n 2, 1) := by decide +kernel
theorem d_La_law_16 : decode code 16 = .ok (.iconst 1, 1) := by decide +kernel
theorem d_La_law_17 : decode code 17 = .ok (.newarray .long, 2) := by decide +kernel
theorem d_La_law_19 : decode code 19 = .ok (.astore_n 3, 1) := by decide +kernel
theorem d_La_law_20 : decode code 20 = .ok (.iconst 0, 1) := by decide +kernel
theorem d_La_law_21 : decode code 21 = .ok (.istore 4, 2) := by decide +kernel
theorem d_La_law_23 : decode code 23 = .ok (.iload 4, 2) := by decide +kernel
theorem d_La_law_25 : decode code 25 = .ok (.aload_n 0, 1) := by decide +kernel
theorem d_La_law_26 : decode code 26 = .ok (.arraylength, 1) := by decide +kernel
theorem d_La_law_27 : decode code 27 = .ok (.bipush 6, 2) := by decide +kernel
theorem d_La_law_29 : decode code 29 = .ok (.isub, 1) := by decide +kernel
theorem d_La_law_30 : decode code 30 = .ok (.if_icmp .gt 1262, 3) := by decide +kernel
theorem d_La_law_33 : decode code 33 = .ok (.aload_n 0, 1) := by decide +kernel
theorem d_La_law_34 : decode code 34 = .ok (.iload 4, 2) := by decide +kernel
theorem d_La_law_36 : decode code 36 = .ok (.iaload, 1) := by decide +kernel
theorem d_La_law_37 : decode code 37 = .ok (.bipush 31, 2) := by decide +kernel
theorem d_La_law_39 : decode code 39 = .ok (.iand, 1) := by decide +kernel
theorem d_La_law_40 : decode code 40 = .ok (.tableswitch 1246 0 16 #[84, 228, 324, 392, 460, 528, 608, 700, 768, 848, 861, 874, 954, 1022, 1078, 1134, 1147], 84) := by decide +kernel
theorem d_La_law_124 : decode code 124 = .ok (.aload_n 1, 1) := by decide +kernel
theorem d_La_law_125 : decode code 125 = .ok (.aload_n 0, 1) := by decide +kernel
theorem d_La_law_126 : decode code 126 = .ok (.iload 4, 2) := by decide +kernel
theorem d_La_law_128 : decode code 128 = .ok (.iconst 1, 1) := by decide +kernel
theorem d_La_law_129 : decode code 129 = .ok (.iadd, 1) := by decide +kernel
theorem d_La_law_130 : decode code 130 = .ok (.iaload, 1) := by decide +kernel
theorem d_La_law_131 : decode code 131 = .ok (.i2l, 1) := by decide +kernel
theorem d_La_law_132 : decode code 132 = .ok (.bipush 32, 2) := by decide +kernel
theorem d_La_law_134 : decode code 134 = .ok (.lshl, 1) := by decide +kernel
theorem d_La_law_135 : decode code 135 = .ok (.aload_n 0, 1) := by decide +kernel
theorem d_La_law_136 : decode code 136 = .ok (.iload 4, 2) := by decide +kernel
theorem d_La_law_138 : decode code 138 = .ok (.iconst 2, 1) := by decide +kernel
theorem d_La_law_139 : decode code 139 = .ok (.iadd, 1) := by decide +kernel
theorem d_La_law_140 : decode code 140 = .ok (.iaload, 1) := by decide +kernel
theorem d_La_law_141 : decode code 141 = .ok (.i2l, 1) := by decide +kernel
theorem d_La_law_142 : decode code 142 = .ok (.ldc2_w 68, 3) := by decide +kernel
theorem d_La_law_145 : decode code 145 = .ok (.land, 1) := by decide +kernel
theorem d_La_law_146 : decode code 146 = .ok (.lor, 1) := by decide +kernel
theorem d_La_law_147 : decode code 147 = .ok (.aload_n 0, 1) := by decide +kernel
theorem d_La_law_148 : decode code 148 = .ok (.iload 4, 2) := by decide +kernel
theorem d_La_law_150 : decode code 150 = .ok (.iconst 3, 1) := by decide +kernel
theorem d_La_law_151 : decode code 151 = .ok (.iadd, 1) := by decide +kernel
theorem d_La_law_152 : decode code 152 = .ok (.iaload, 1) := by decide +kernel
theorem d_La_law_153 : decode code 153 = .ok (.i2l, 1) := by decide +kernel
theorem d_La_law_154 : decode code 154 = .ok (.bipush 32, 2) := by decide +kernel
theorem d_La_law_156 : decode code 156 = .ok (.lshl, 1) := by decide +kernel
theorem d_La_law_157 : decode code 157 = .ok (.aload_n 0, 1) := by decide +kernel
theorem d_La_law_158 : decode code 158 = .ok (.iload 4, 2) := by decide +kernel
theorem d_La_law_160 : decode code 160 = .ok (.iconst 4, 1) := by decide +kernel
theorem d_La_law_161 : decode code 161 = .ok (.iadd, 1) := by decide +kernel
theorem d_La_law_162 : decode code 162 = .ok (.iaload, 1) := by decide +kernel
theorem d_La_law_163 : decode code 163 = .ok (.i2l, 1) := by decide +kernel
theorem d_La_law_164 : decode code 164 = .ok (.ldc2_w 68, 3) := by decide +kernel
theorem d_La_law_167 : decode code 167 = .ok (.land, 1) := by decide +kernel
theorem d_La_law_168 : decode code 168 = .ok (.lor, 1) := by decide +kernel
theorem d_La_law_169 : decode code 169 = .ok (.aload_n 0, 1) := by decide +kernel
theorem d_La_law_170 : decode code 170 = .ok (.iload 4, 2) := by decide +kernel
theorem d_La_law_172 : decode code 172 = .ok (.iconst 5, 1) := by decide +kernel
theorem d_La_law_173 : decode code 173 = .ok (.iadd, 1) := by decide +kernel
theorem d_La_law_174 : decode code 174 = .ok (.iaload, 1) := by decide +kernel
theorem d_La_law_175 : decode code 175 = .ok (.aload_n 3, 1) := by decide +kernel
theorem d_La_law_176 : decode code 176 = .ok (.invokestatic 70, 3) := by decide +kernel
theorem d_La_law_179 : decode code 179 = .ok (.istore 5, 2) := by decide +kernel
theorem d_La_law_181 : decode code 181 = .ok (.aload_n 2, 1) := by decide +kernel
theorem d_La_law_182 : decode code 182 = .ok (.aload_n 0, 1) := by decide +kernel
theorem d_La_law_183 : decode code 183 = .ok (.iload 4, 2) := by decide +kernel
theorem d_La_law_185 : decode code 185 = .ok (.iconst 1, 1) := by decide +kernel
theorem d_La_law_186 : decode code 186 = .ok (.iadd, 1) := by decide +kernel
theorem d_La_law_187 : decode code 187 = .ok (.iaload, 1) := by decide +kernel
theorem d_La_law_188 : decode code 188 = .ok (.i2l, 1) := by decide +kernel
theorem d_La_law_189 : decode code 189 = .ok (.bipush 32, 2) := by decide +kernel
theorem d_La_law_191 : decode code 191 = .ok (.lshl, 1) := by decide +kernel
theorem d_La_law_192 : decode code 192 = .ok (.aload_n 0, 1) := by decide +kernel
theorem d_La_law_193 : decode code 193 = .ok (.iload 4, 2) := by decide +kernel
theorem d_La_law_195 : decode code 195 = .ok (.iconst 2, 1) := by decide +kernel
theorem d_La_law_196 : decode code 196 = .ok (.iadd, 1) := by decide +kernel
theorem d_La_law_197 : decode code 197 = .ok (.iaload, 1) := by decide +kernel
theorem d_La_law_198 : decode code 198 = .ok (.i2l, 1) := by decide +kernel
theorem d_La_law_199 : decode code 199 = .ok (.ldc2_w 68, 3) := by decide +kernel
theorem d_La_law_202 : decode code 202 = .ok (.land, 1) := by decide +kernel
theorem d_La_law_203 : decode code 203 = .ok (.lor, 1) := by decide +kernel
theorem d_La_law_204 : decode code 204 = .ok (.aload_n 0, 1) := by decide +kernel
theorem d_La_law_205 : decode code 205 = .ok (.iload 4, 2) := by decide +kernel
theorem d_La_law_207 : decode code 207 = .ok (.iconst 3, 1) := by decide +kernel
theorem d_La_law_208 : decode code 208 = .ok (.iadd, 1) := by decide +kernel
theorem d_La_law_209 : decode code 209 = .ok (.iaload, 1) := by decide +kernel
theorem d_La_law_210 : decode code 210 = .ok (.i2l, 1) := by decide +kernel
theorem d_La_law_211 : decode code 211 = .ok (.bipush 32, 2) := by decide +kernel
theorem d_La_law_213 : decode code 213 = .ok (.lshl, 1) := by decide +kernel
theorem d_La_law_214 : decode code 214 = .ok (.aload_n 0, 1) := by decide +kernel
theorem d_La_law_215 : decode code 215 = .ok (.iload 4, 2) := by decide +kernel
theorem d_La_law_217 : decode code 217 = .ok (.iconst 4, 1) := by decide +kernel
theorem d_La_law_218 : decode code 218 = .ok (.iadd, 1) := by decide +kernel
theorem d_La_law_219 : decode code 219 = .ok (.iaload, 1) := by decide +kernel
theorem d_La_law_220 : decode code 220 = .ok (.i2l, 1) := by decide +kernel
theorem d_La_law_221 : decode code 221 = .ok (.ldc2_w 68, 3) := by decide +kernel
theorem d_La_law_224 : decode code 224 = .ok (.land, 1) := by decide +kernel
theorem d_La_law_225 : decode code 225 = .ok (.lor, 1) := by decide +kernel
theorem d_La_law_226 : decode code 226 = .ok (.aload_n 0, 1) := by decide +kernel
theorem d_La_law_227 : decode code 227 = .ok (.iload 4, 2) := by decide +kernel
theorem d_La_law_229 : decode code 229 = .ok (.iconst 5, 1) := by decide +kernel
theorem d_La_law_230 : decode code 230 = .ok (.iadd, 1) := by decide +kernel
theorem d_La_law_231 : decode code 231 = .ok (.iaload, 1) := by decide +kernel
theorem d_La_law_232 : decode code 232 = .ok (.invokevirtual 75, 3) := by decide +kernel
theorem d_La_law_235 : decode code 235 = .ok (.istore 6, 2) := by decide +kernel
theorem d_La_law_237 : decode code 237 = .ok (.aload_n 2, 1) := by decide +kernel
theorem d_La_law_238 : decode code 238 = .ok (.invokevirtual 76, 3) := by decide +kernel
theorem d_La_law_241 : decode code 241 = .ok (.iload 5, 2) := by decide +kernel
theorem d_La_law_243 : decode code 243 = .ok (.if_icmp .eq 5, 3) := by decide +kernel
theorem d_La_law_246 : decode code 246 = .ok (.iconst 0, 1) := by decide +kernel
theorem d_La_law_247 : decode code 247 = .ok (.ireturn, 1) := by decide +kernel
theorem d_La_law_248 : decode code 248 = .ok (.iload 5, 2) := by decide +kernel
theorem d_La_law_250 : decode code 250 = .ok (.ifCond .ne 15, 3) := by decide +kernel
theorem d_La_law_253 : decode code 253 = .ok (.aload_n 3, 1) := by decide +kernel
theorem d_La_law_254 : decode code 254 = .ok (.iconst 0, 1) := by decide +kernel
theorem d_La_law_255 : decode code 255 = .ok (.laload, 1) := by decide +kernel
theorem d_La_law_256 : decode code 256 = .ok (.iload 6, 2) := by decide +kernel
theorem d_La_law_258 : decode code 258 = .ok (.i2l, 1) := by decide +kernel
theorem d_La_law_259 : decode code 259 = .ok (.lcmp, 1) := by decide +kernel
theorem d_La_law_260 : decode code 260 = .ok (.ifCond .eq 5, 3) := by decide +kernel
theorem d_La_law_263 : decode code 263 = .ok (.iconst 0, 1) := by decide +kernel
theorem d_La_law_264 : decode code 264 = .ok (.ireturn, 1) := by decide +kernel
theorem d_La_law_265 : decode code 265 = .ok (.goto 1021, 3) := by decide +kernel
theorem d_La_law_268 : decode code 268 = .ok (.aload_n 1, 1) := by decide +kernel
theorem d_La_law_269 : decode code 269 = .ok (.aload_n 0, 1) := by decide +kernel
theorem d_La_law_270 : decode code 270 = .ok (.iload 4, 2) := by decide +kernel
theorem d_La_law_272 : decode code 272 = .ok (.iconst 1, 1) := by decide +kernel
theorem d_La_law_273 : decode code 273 = .ok (.iadd, 1) := by decide +kernel
theorem d_La_law_274 : decode code 274 = .ok (.iaload, 1) := by decide +kernel
theorem d_La_law_275 : decode code 275 = .ok (.aload_n 0, 1) := by decide +kernel
theorem d_La_law_276 : decode code 276 = .ok (.iload 4, 2) := by decide +kernel
theorem d_La_law_278 : decode code 278 = .ok (.iconst 2, 1) := by decide +kernel
theorem d_La_law_279 : decode code 279 = .ok (.iadd, 1) := by decide +kernel
theorem d_La_law_280 : decode code 280 = .ok (.iaload, 1) := by decide +kernel
theorem d_La_law_281 : decode code 281 = .ok (.aload_n 0, 1) := by decide +kernel
theorem d_La_law_282 : decode code 282 = .ok (.iload 4, 2) := by decide +kernel
theorem d_La_law_284 : decode code 284 = .ok (.iconst 3, 1) := by decide +kernel
theorem d_La_law_285 : decode code 285 = .ok (.iadd, 1) := by decide +kernel
theorem d_La_law_286 : decode code 286 = .ok (.iaload, 1) := by decide +kernel
theorem d_La_law_287 : decode code 287 = .ok (.ifCond .eq 7, 3) := by decide +kernel
theorem d_La_law_290 : decode code 290 = .ok (.iconst 1, 1) := by decide +kernel
theorem d_La_law_291 : decode code 291 = .ok (.goto 4, 3) := by decide +kernel
theorem d_La_law_294 : decode code 294 = .ok (.iconst 0, 1) := by decide +kernel
theorem d_La_law_295 : decode code 295 = .ok (.aload_n 3, 1) := by decide +kernel
theorem d_La_law_296 : decode code 296 = .ok (.invokestatic 80, 3) := by decide +kernel
theorem d_La_law_299 : decode code 299 = .ok (.istore 5, 2) := by decide +kernel
theorem d_La_law_301 : decode code 301 = .ok (.aload_n 2, 1) := by decide +kernel
theorem d_La_law_302 : decode code 302 = .ok (.aload_n 0, 1) := by decide +kernel
theorem d_La_law_303 : decode code 303 = .ok (.iload 4, 2) := by decide +kernel
theorem d_La_law_305 : decode code 305 = .ok (.iconst 1, 1) := by decide +kernel
theorem d_La_law_306 : decode code 306 = .ok (.iadd, 1) := by decide +kernel
theorem d_La_law_307 : decode code 307 = .ok (.iaload, 1) := by decide +kernel
theorem d_La_law_308 : decode code 308 = .ok (.aload_n 0, 1) := by decide +kernel
theorem d_La_law_309 : decode code 309 = .ok (.iload 4, 2) := by decide +kernel
theorem d_La_law_311 : decode code 311 = .ok (.iconst 2, 1) := by decide +kernel
theorem d_La_law_312 : decode code 312 = .ok (.iadd, 1) := by decide +kernel
theorem d_La_law_313 : decode code 313 = .ok (.iaload, 1) := by decide +kernel
theorem d_La_law_314 : decode code 314 = .ok (.aload_n 0, 1) := by decide +kernel
theorem d_La_law_315 : decode code 315 = .ok (.iload 4, 2) := by decide +kernel
theorem d_La_law_317 : decode code 317 = .ok (.iconst 3, 1) := by decide +kernel
theorem d_La_law_318 : decode code 318 = .ok (.iadd, 1) := by decide +kernel
theorem d_La_law_319 : decode code 319 = .ok (.iaload, 1) := by decide +kernel
theorem d_La_law_320 : decode code 320 = .ok (.ifCond .eq 7, 3) := by decide +kernel
theorem d_La_law_323 : decode code 323 = .ok (.iconst 1, 1) := by decide +kernel
theorem d_La_law_324 : decode code 324 = .ok (.goto 4, 3) := by decide +kernel
theorem d_La_law_327 : decode code 327 = .ok (.iconst 0, 1) := by decide +kernel
theorem d_La_law_328 : decode code 328 = .ok (.invokevirtual 83, 3) := by decide +kernel
theorem d_La_law_331 : decode code 331 = .ok (.istore 6, 2) := by decide +kernel
theorem d_La_law_333 : decode code 333 = .ok (.aload_n 2, 1) := by decide +kernel
theorem d_La_law_334 : decode code 334 = .ok (.invokevirtual 76, 3) := by decide +kernel
theorem d_La_law_337 : decode code 337 = .ok (.iload 5, 2) := by decide +kernel
theorem d_La_law_339 : decode code 339 = .ok (.if_icmp .eq 5, 3) := by decide +kernel
theorem d_La_law_342 : decode code 342 = .ok (.iconst 0, 1) := by decide +kernel
theorem d_La_law_343 : decode code 343 = .ok (.ireturn, 1) := by decide +kernel
theorem d_La_law_344 : decode code 344 = .ok (.iload 5, 2) := by decide +kernel
theorem d_La_law_346 : decode code 346 = .ok (.ifCond .ne 15, 3) := by decide +kernel
theorem d_La_law_349 : decode code 349 = .ok (.aload_n 3, 1) := by decide +kernel
theorem d_La_law_350 : decode code 350 = .ok (.iconst 0, 1) := by decide +kernel
theorem d_La_law_351 : decode code 351 = .ok (.laload, 1) := by decide +kernel
theorem d_La_law_352 : decode code 352 = .ok (.iload 6, 2) := by decide +kernel
theorem d_La_law_354 : decode code 354 = .ok (.i2l, 1) := by decide +kernel
theorem d_La_law_355 : decode code 355 = .ok (.lcmp, 1) := by decide +kernel
theorem d_La_law_356 : decode code 356 = .ok (.ifCond .eq 5, 3) := by decide +kernel
theorem d_La_law_359 : decode code 359 = .ok (.iconst 0, 1) := by decide +kernel
theorem d_La_law_360 : decode code 360 = .ok (.ireturn, 1) := by decide +kernel
theorem d_La_law_361 : decode code 361 = .ok (.goto 925, 3) := by decide +kernel
theorem d_La_law_364 : decode code 364 = .ok (.aload_n 1, 1) := by decide +kernel
theorem d_La_law_365 : decode code 365 = .ok (.aload_n 0, 1) := by decide +kernel
theorem d_La_law_366 : decode code 366 = .ok (.iload 4, 2) := by decide +kernel
theorem d_La_law_368 : decode code 368 = .ok (.iconst 1, 1) := by decide +kernel
theorem d_La_law_369 : decode code 369 = .ok (.iadd, 1) := by decide +kernel
theorem d_La_law_370 : decode code 370 = .ok (.iaload, 1) := by decide +kernel
theorem d_La_law_371 : decode code 371 = .ok (.aload_n 0, 1) := by decide +kernel
theorem d_La_law_372 : decode code 372 = .ok (.iload 4, 2) := by decide +kernel
theorem d_La_law_374 : decode code 374 = .ok (.iconst 2, 1) := by decide +kernel
theorem d_La_law_375 : decode code 375 = .ok (.iadd, 1) := by decide +kernel
theorem d_La_law_376 : decode code 376 = .ok (.iaload, 1) := by decide +kernel
theorem d_La_law_377 : decode code 377 = .ok (.aload_n 3, 1) := by decide +kernel
theorem d_La_law_378 : decode code 378 = .ok (.invokestatic 84, 3) := by decide +kernel
theorem d_La_law_381 : decode code 381 = .ok (.istore 5, 2) := by decide +kernel
theorem d_La_law_383 : decode code 383 = .ok (.aload_n 2, 1) := by decide +kernel
theorem d_La_law_384 : decode code 384 = .ok (.aload_n 0, 1) := by decide +kernel
theorem d_La_law_385 : decode code 385 = .ok (.iload 4, 2) := by decide +kernel
theorem d_La_law_387 : decode code 387 = .ok (.iconst 1, 1) := by decide +kernel
theorem d_La_law_388 : decode code 388 = .ok (.iadd, 1) := by decide +kernel
theorem d_La_law_389 : decode code 389 = .ok (.iaload, 1) := by decide +kernel
theorem d_La_law_390 : decode code 390 = .ok (.aload_n 0, 1) := by decide +kernel
theorem d_La_law_391 : decode code 391 = .ok (.iload 4, 2) := by decide +kernel
theorem d_La_law_393 : decode code 393 = .ok (.iconst 2, 1) := by decide +kernel
theorem d_La_law_394 : decode code 394 = .ok (.iadd, 1) := by decide +kernel
theorem d_La_law_395 : decode code 395 = .ok (.iaload, 1) := by decide +kernel
theorem d_La_law_396 : decode code 396 = .ok (.invokevirtual 87, 3) := by decide +kernel
theorem d_La_law_399 : decode code 399 = .ok (.istore 6, 2) := by decide +kernel
theorem d_La_law_401 : decode code 401 = .ok (.aload_n 2, 1) := by decide +kernel
theorem d_La_law_402 : decode code 402 = .ok (.invokevirtual 76, 3) := by decide +kernel
theorem d_La_law_405 : decode code 405 = .ok (.iload 5, 2) := by decide +kernel
theorem d_La_law_407 : decode code 407 = .ok (.if_icmp .eq 5, 3) := by decide +kernel
theorem d_La_law_410 : decode code 410 = .ok (.iconst 0, 1) := by decide +kernel
theorem d_La_law_411 : decode code 411 = .ok (.ireturn, 1) := by decide +kernel
theorem d_La_law_412 : decode code 412 = .ok (.iload 5, 2) := by decide +kernel
theorem d_La_law_414 : decode code 414 = .ok (.ifCond .ne 15, 3) := by decide +kernel
theorem d_La_law_417 : decode code 417 = .ok (.aload_n 3, 1) := by decide +kernel
theorem d_La_law_418 : decode code 418 = .ok (.iconst 0, 1) := by decide +kernel
theorem d_La_law_419 : decode code 419 = .ok (.laload, 1) := by decide +kernel
theorem d_La_law_420 : decode code 420 = .ok (.iload 6, 2) := by decide +kernel
theorem d_La_law_422 : decode code 422 = .ok (.i2l, 1) := by decide +kernel
theorem d_La_law_423 : decode code 423 = .ok (.lcmp, 1) := by decide +kernel
theorem d_La_law_424 : decode code 424 = .ok (.ifCond .eq 5, 3) := by decide +kernel
theorem d_La_law_427 : decode code 427 = .ok (.iconst 0, 1) := by decide +kernel
theorem d_La_law_428 : decode code 428 = .ok (.ireturn, 1) := by decide +kernel
theorem d_La_law_429 : decode code 429 = .ok (.goto 857, 3) := by decide +kernel
theorem d_La_law_432 : decode code 432 = .ok (.aload_n 1, 1) := by decide +kernel
theorem d_La_law_433 : decode code 433 = .ok (.aload_n 0, 1) := by decide +kernel
theorem d_La_law_434 : decode code 434 = .ok (.iload 4, 2) := by decide +kernel
theorem d_La_law_436 : decode code 436 = .ok (.iconst 1, 1) := by decide +kernel
theorem d_La_law_437 : decode code 437 = .ok (.iadd, 1) := by decide +kernel
theorem d_La_law_438 : decode code 438 = .ok (.iaload, 1) := by decide +kernel
theorem d_La_law_439 : decode code 439 = .ok (.aload_n 0, 1) := by decide +kernel
theorem d_La_law_440 : decode code 440 = .ok (.iload 4, 2) := by decide +kernel
theorem d_La_law_442 : decode code 442 = .ok (.iconst 2, 1) := by decide +kernel
theorem d_La_law_443 : decode code 443 = .ok (.iadd, 1) := by decide +kernel
theorem d_La_law_444 : decode code 444 = .ok (.iaload, 1) := by decide +kernel
theorem d_La_law_445 : decode code 445 = .ok (.aload_n 3, 1) := by decide +kernel
theorem d_La_law_446 : decode code 446 = .ok (.invokestatic 88, 3) := by decide +kernel
theorem d_La_law_449 : decode code 449 = .ok (.istore 5, 2) := by decide +kernel
theorem d_La_law_451 : decode code 451 = .ok (.aload_n 2, 1) := by decide +kernel
theorem d_La_law_452 : decode code 452 = .ok (.aload_n 0, 1) := by decide +kernel
theorem d_La_law_453 : decode code 453 = .ok (.iload 4, 2) := by decide +kernel
theorem d_La_law_455 : decode code 455 = .ok (.iconst 1, 1) := by decide +kernel
theorem d_La_law_456 : decode code 456 = .ok (.iadd, 1) := by decide +kernel
theorem d_La_law_457 : decode code 457 = .ok (.iaload, 1) := by decide +kernel
theorem d_La_law_458 : decode code 458 = .ok (.aload_n 0, 1) := by decide +kernel
theorem d_La_law_459 : decode code 459 = .ok (.iload 4, 2) := by decide +kernel
theorem d_La_law_461 : decode code 461 = .ok (.iconst 2, 1) := by decide +kernel
theorem d_La_law_462 : decode code 462 = .ok (.iadd, 1) := by decide +kernel
theorem d_La_law_463 : decode code 463 = .ok (.iaload, 1) := by decide +kernel
theorem d_La_law_464 : decode code 464 = .ok (.invokevirtual 90, 3) := by decide +kernel
theorem d_La_law_467 : decode code 467 = .ok (.istore 6, 2) := by decide +kernel
theorem d_La_law_469 : decode code 469 = .ok (.aload_n 2, 1) := by decide +kernel
theorem d_La_law_470 : decode code 470 = .ok (.invokevirtual 76, 3) := by decide +kernel
theorem d_La_law_473 : decode code 473 = .ok (.iload 5, 2) := by decide +kernel
theorem d_La_law_475 : decode code 475 = .ok (.if_icmp .eq 5, 3) := by decide +kernel
theorem d_La_law_478 : decode code 478 = .ok (.iconst 0, 1) := by decide +kernel
theorem d_La_law_479 : decode code 479 = .ok (.ireturn, 1) := by decide +kernel
theorem d_La_law_480 : decode code 480 = .ok (.iload 5, 2) := by decide +kernel
theorem d_La_law_482 : decode code 482 = .ok (.ifCond .ne 15, 3) := by decide +kernel
theorem d_La_law_485 : decode code 485 = .ok (.aload_n 3, 1) := by decide +kernel
theorem d_La_law_486 : decode code 486 = .ok (.iconst 0, 1) := by decide +kernel
theorem d_La_law_487 : decode code 487 = .ok (.laload, 1) := by decide +kernel
theorem d_La_law_488 : decode code 488 = .ok (.iload 6, 2) := by decide +kernel
theorem d_La_law_490 : decode code 490 = .ok (.i2l, 1) := by decide +kernel
theorem d_La_law_491 : decode code 491 = .ok (.lcmp, 1) := by decide +kernel
theorem d_La_law_492 : decode code 492 = .ok (.ifCond .eq 5, 3) := by decide +kernel
theorem d_La_law_495 : decode code 495 = .ok (.iconst 0, 1) := by decide +kernel
theorem d_La_law_496 : decode code 496 = .ok (.ireturn, 1) := by decide +kernel
theorem d_La_law_497 : decode code 497 = .ok (.goto 789, 3) := by decide +kernel
theorem d_La_law_500 : decode code 500 = .ok (.aload_n 1, 1) := by decide +kernel
theorem d_La_law_501 : decode code 501 = .ok (.aload_n 0, 1) := by decide +kernel
theorem d_La_law_502 : decode code 502 = .ok (.iload 4, 2) := by decide +kernel
theorem d_La_law_504 : decode code 504 = .ok (.iconst 1, 1) := by decide +kernel
theorem d_La_law_505 : decode code 505 = .ok (.iadd, 1) := by decide +kernel
theorem d_La_law_506 : decode code 506 = .ok (.iaload, 1) := by decide +kernel
theorem d_La_law_507 : decode code 507 = .ok (.aload_n 0, 1) := by decide +kernel
theorem d_La_law_508 : decode code 508 = .ok (.iload 4, 2) := by decide +kernel
theorem d_La_law_510 : decode code 510 = .ok (.iconst 2, 1) := by decide +kernel
theorem d_La_law_511 : decode code 511 = .ok (.iadd, 1) := by decide +kernel
theorem d_La_law_512 : decode code 512 = .ok (.iaload, 1) := by decide +kernel
theorem d_La_law_513 : decode code 513 = .ok (.aload_n 3, 1) := by decide +kernel
theorem d_La_law_514 : decode code 514 = .ok (.invokestatic 91, 3) := by decide +kernel
theorem d_La_law_517 : decode code 517 = .ok (.istore 5, 2) := by decide +kernel
theorem d_La_law_519 : decode code 519 = .ok (.aload_n 2, 1) := by decide +kernel
theorem d_La_law_520 : decode code 520 = .ok (.aload_n 0, 1) := by decide +kernel
theorem d_La_law_521 : decode code 521 = .ok (.iload 4, 2) := by decide +kernel
theorem d_La_law_523 : decode code 523 = .ok (.iconst 1, 1) := by decide +kernel
theorem d_La_law_524 : decode code 524 = .ok (.iadd, 1) := by decide +kernel
theorem d_La_law_525 : decode code 525 = .ok (.iaload, 1) := by decide +kernel
theorem d_La_law_526 : decode code 526 = .ok (.aload_n 0, 1) := by decide +kernel
theorem d_La_law_527 : decode code 527 = .ok (.iload 4, 2) := by decide +kernel
theorem d_La_law_529 : decode code 529 = .ok (.iconst 2, 1) := by decide +kernel
theorem d_La_law_530 : decode code 530 = .ok (.iadd, 1) := by decide +kernel
theorem d_La_law_531 : decode code 531 = .ok (.iaload, 1) := by decide +kernel
theorem d_La_law_532 : decode code 532 = .ok (.invokevirtual 93, 3) := by decide +kernel
theorem d_La_law_535 : decode code 535 = .ok (.istore 6, 2) := by decide +kernel
theorem d_La_law_537 : decode code 537 = .ok (.aload_n 2, 1) := by decide +kernel
theorem d_La_law_538 : decode code 538 = .ok (.invokevirtual 76, 3) := by decide +kernel
theorem d_La_law_541 : decode code 541 = .ok (.iload 5, 2) := by decide +kernel
theorem d_La_law_543 : decode code 543 = .ok (.if_icmp .eq 5, 3) := by decide +kernel
theorem d_La_law_546 : decode code 546 = .ok (.iconst 0, 1) := by decide +kernel
theorem d_La_law_547 : decode code 547 = .ok (.ireturn, 1) := by decide +kernel
theorem d_La_law_548 : decode code 548 = .ok (.iload 5, 2) := by decide +kernel
theorem d_La_law_550 : decode code 550 = .ok (.ifCond .ne 15, 3) := by decide +kernel
theorem d_La_law_553 : decode code 553 = .ok (.aload_n 3, 1) := by decide +kernel
theorem d_La_law_554 : decode code 554 = .ok (.iconst 0, 1) := by decide +kernel
theorem d_La_law_555 : decode code 555 = .ok (.laload, 1) := by decide +kernel
theorem d_La_law_556 : decode code 556 = .ok (.iload 6, 2) := by decide +kernel
theorem d_La_law_558 : decode code 558 = .ok (.i2l, 1) := by decide +kernel
theorem d_La_law_559 : decode code 559 = .ok (.lcmp, 1) := by decide +kernel
theorem d_La_law_560 : decode code 560 = .ok (.ifCond .eq 5, 3) := by decide +kernel
theorem d_La_law_563 : decode code 563 = .ok (.iconst 0, 1) := by decide +kernel
theorem d_La_law_564 : decode code 564 = .ok (.ireturn, 1) := by decide +kernel
theorem d_La_law_565 : decode code 565 = .ok (.goto 721, 3) := by decide +kernel
theorem d_La_law_568 : decode code 568 = .ok (.aload_n 1, 1) := by decide +kernel
theorem d_La_law_569 : decode code 569 = .ok (.aload_n 0, 1) := by decide +kernel
theorem d_La_law_570 : decode code 570 = .ok (.iload 4, 2) := by decide +kernel
theorem d_La_law_572 : decode code 572 = .ok (.iconst 1, 1) := by decide +kernel
theorem d_La_law_573 : decode code 573 = .ok (.iadd, 1) := by decide +kernel
theorem d_La_law_574 : decode code 574 = .ok (.iaload, 1) := by decide +kernel
theorem d_La_law_575 : decode code 575 = .ok (.aload_n 0, 1) := by decide +kernel
theorem d_La_law_576 : decode code 576 = .ok (.iload 4, 2) := by decide +kernel
theorem d_La_law_578 : decode code 578 = .ok (.iconst 2, 1) := by decide +kernel
theorem d_La_law_579 : decode code 579 = .ok (.iadd, 1) := by decide +kernel
theorem d_La_law_580 : decode code 580 = .ok (.iaload, 1) := by decide +kernel
theorem d_La_law_581 : decode code 581 = .ok (.aload_n 0, 1) := by decide +kernel
theorem d_La_law_582 : decode code 582 = .ok (.iload 4, 2) := by decide +kernel
theorem d_La_law_584 : decode code 584 = .ok (.iconst 3, 1) := by decide +kernel
theorem d_La_law_585 : decode code 585 = .ok (.iadd, 1) := by decide +kernel
theorem d_La_law_586 : decode code 586 = .ok (.iaload, 1) := by decide +kernel
theorem d_La_law_587 : decode code 587 = .ok (.aload_n 3, 1) := by decide +kernel
theorem d_La_law_588 : decode code 588 = .ok (.invokestatic 94, 3) := by decide +kernel
theorem d_La_law_591 : decode code 591 = .ok (.istore 5, 2) := by decide +kernel
theorem d_La_law_593 : decode code 593 = .ok (.aload_n 2, 1) := by decide +kernel
theorem d_La_law_594 : decode code 594 = .ok (.aload_n 0, 1) := by decide +kernel
theorem d_La_law_595 : decode code 595 = .ok (.iload 4, 2) := by decide +kernel
theorem d_La_law_597 : decode code 597 = .ok (.iconst 1, 1) := by decide +kernel
theorem d_La_law_598 : decode code 598 = .ok (.iadd, 1) := by decide +kernel
theorem d_La_law_599 : decode code 599 = .ok (.iaload, 1) := by decide +kernel
theorem d_La_law_600 : decode code 600 = .ok (.aload_n 0, 1) := by decide +kernel
theorem d_La_law_601 : decode code 601 = .ok (.iload 4, 2) := by decide +kernel
theorem d_La_law_603 : decode code 603 = .ok (.iconst 2, 1) := by decide +kernel
theorem d_La_law_604 : decode code 604 = .ok (.iadd, 1) := by decide +kernel
theorem d_La_law_605 : decode code 605 = .ok (.iaload, 1) := by decide +kernel
theorem d_La_law_606 : decode code 606 = .ok (.aload_n 0, 1) := by decide +kernel
theorem d_La_law_607 : decode code 607 = .ok (.iload 4, 2) := by decide +kernel
theorem d_La_law_609 : decode code 609 = .ok (.iconst 3, 1) := by decide +kernel
theorem d_La_law_610 : decode code 610 = .ok (.iadd, 1) := by decide +kernel
theorem d_La_law_611 : decode code 611 = .ok (.iaload, 1) := by decide +kernel
theorem d_La_law_612 : decode code 612 = .ok (.invokevirtual 97, 3) := by decide +kernel
theorem d_La_law_615 : decode code 615 = .ok (.istore 6, 2) := by decide +kernel
theorem d_La_law_617 : decode code 617 = .ok (.aload_n 2, 1) := by decide +kernel
theorem d_La_law_618 : decode code 618 = .ok (.invokevirtual 76, 3) := by decide +kernel
theorem d_La_law_621 : decode code 621 = .ok (.iload 5, 2) := by decide +kernel
theorem d_La_law_623 : decode code 623 = .ok (.if_icmp .eq 5, 3) := by decide +kernel
theorem d_La_law_626 : decode code 626 = .ok (.iconst 0, 1) := by decide +kernel
theorem d_La_law_627 : decode code 627 = .ok (.ireturn, 1) := by decide +kernel
theorem d_La_law_628 : decode code 628 = .ok (.iload 5, 2) := by decide +kernel
theorem d_La_law_630 : decode code 630 = .ok (.ifCond .ne 15, 3) := by decide +kernel
theorem d_La_law_633 : decode code 633 = .ok (.aload_n 3, 1) := by decide +kernel
theorem d_La_law_634 : decode code 634 = .ok (.iconst 0, 1) := by decide +kernel
theorem d_La_law_635 : decode code 635 = .ok (.laload, 1) := by decide +kernel
theorem d_La_law_636 : decode code 636 = .ok (.iload 6, 2) := by decide +kernel
theorem d_La_law_638 : decode code 638 = .ok (.i2l, 1) := by decide +kernel
theorem d_La_law_639 : decode code 639 = .ok (.lcmp, 1) := by decide +kernel
theorem d_La_law_640 : decode code 640 = .ok (.ifCond .eq 5, 3) := by decide +kernel
theorem d_La_law_643 : decode code 643 = .ok (.iconst 0, 1) := by decide +kernel
theorem d_La_law_644 : decode code 644 = .ok (.ireturn, 1) := by decide +kernel
theorem d_La_law_645 : decode code 645 = .ok (.goto 641, 3) := by decide +kernel
theorem d_La_law_648 : decode code 648 = .ok (.aload_n 1, 1) := by decide +kernel
theorem d_La_law_649 : decode code 649 = .ok (.aload_n 0, 1) := by decide +kernel
theorem d_La_law_650 : decode code 650 = .ok (.iload 4, 2) := by decide +kernel
theorem d_La_law_652 : decode code 652 = .ok (.iconst 1, 1) := by decide +kernel
theorem d_La_law_653 : decode code 653 = .ok (.iadd, 1) := by decide +kernel
theorem d_La_law_654 : decode code 654 = .ok (.iaload, 1) := by decide +kernel
theorem d_La_law_655 : decode code 655 = .ok (.aload_n 0, 1) := by decide +kernel
theorem d_La_law_656 : decode code 656 = .ok (.iload 4, 2) := by decide +kernel
theorem d_La_law_658 : decode code 658 = .ok (.iconst 2, 1) := by decide +kernel
theorem d_La_law_659 : decode code 659 = .ok (.iadd, 1) := by decide +kernel
theorem d_La_law_660 : decode code 660 = .ok (.iaload, 1) := by decide +kernel
theorem d_La_law_661 : decode code 661 = .ok (.aload_n 0, 1) := by decide +kernel
theorem d_La_law_662 : decode code 662 = .ok (.iload 4, 2) := by decide +kernel
theorem d_La_law_664 : decode code 664 = .ok (.iconst 3, 1) := by decide +kernel
theorem d_La_law_665 : decode code 665 = .ok (.iadd, 1) := by decide +kernel
theorem d_La_law_666 : decode code 666 = .ok (.iaload, 1) := by decide +kernel
theorem d_La_law_667 : decode code 667 = .ok (.aload_n 0, 1) := by decide +kernel
theorem d_La_law_668 : decode code 668 = .ok (.iload 4, 2) := by decide +kernel
theorem d_La_law_670 : decode code 670 = .ok (.iconst 4, 1) := by decide +kernel
theorem d_La_law_671 : decode code 671 = .ok (.iadd, 1) := by decide +kernel
theorem d_La_law_672 : decode code 672 = .ok (.iaload, 1) := by decide +kernel
theorem d_La_law_673 : decode code 673 = .ok (.aload_n 3, 1) := by decide +kernel
theorem d_La_law_674 : decode code 674 = .ok (.invokestatic 98, 3) := by decide +kernel
theorem d_La_law_677 : decode code 677 = .ok (.istore 5, 2) := by decide +kernel
theorem d_La_law_679 : decode code 679 = .ok (.aload_n 2, 1) := by decide +kernel
theorem d_La_law_680 : decode code 680 = .ok (.aload_n 0, 1) := by decide +kernel
theorem d_La_law_681 : decode code 681 = .ok (.iload 4, 2) := by decide +kernel
theorem d_La_law_683 : decode code 683 = .ok (.iconst 1, 1) := by decide +kernel
theorem d_La_law_684 : decode code 684 = .ok (.iadd, 1) := by decide +kernel
theorem d_La_law_685 : decode code 685 = .ok (.iaload, 1) := by decide +kernel
theorem d_La_law_686 : decode code 686 = .ok (.aload_n 0, 1) := by decide +kernel
theorem d_La_law_687 : decode code 687 = .ok (.iload 4, 2) := by decide +kernel
theorem d_La_law_689 : decode code 689 = .ok (.iconst 2, 1) := by decide +kernel
theorem d_La_law_690 : decode code 690 = .ok (.iadd, 1) := by decide +kernel
theorem d_La_law_691 : decode code 691 = .ok (.iaload, 1) := by decide +kernel
theorem d_La_law_692 : decode code 692 = .ok (.aload_n 0, 1) := by decide +kernel
theorem d_La_law_693 : decode code 693 = .ok (.iload 4, 2) := by decide +kernel
theorem d_La_law_695 : decode code 695 = .ok (.iconst 3, 1) := by decide +kernel
theorem d_La_law_696 : decode code 696 = .ok (.iadd, 1) := by decide +kernel
theorem d_La_law_697 : decode code 697 = .ok (.iaload, 1) := by decide +kernel
theorem d_La_law_698 : decode code 698 = .ok (.aload_n 0, 1) := by decide +kernel
theorem d_La_law_699 : decode code 699 = .ok (.iload 4, 2) := by decide +kernel
theorem d_La_law_701 : decode code 701 = .ok (.iconst 4, 1) := by decide +kernel
theorem d_La_law_702 : decode code 702 = .ok (.iadd, 1) := by decide +kernel
theorem d_La_law_703 : decode code 703 = .ok (.iaload, 1) := by decide +kernel
theorem d_La_law_704 : decode code 704 = .ok (.invokevirtual 101, 3) := by decide +kernel
theorem d_La_law_707 : decode code 707 = .ok (.istore 6, 2) := by decide +kernel
theorem d_La_law_709 : decode code 709 = .ok (.aload_n 2, 1) := by decide +kernel
theorem d_La_law_710 : decode code 710 = .ok (.invokevirtual 76, 3) := by decide +kernel
theorem d_La_law_713 : decode code 713 = .ok (.iload 5, 2) := by decide +kernel
theorem d_La_law_715 : decode code 715 = .ok (.if_icmp .eq 5, 3) := by decide +kernel
theorem d_La_law_718 : decode code 718 = .ok (.iconst 0, 1) := by decide +kernel
theorem d_La_law_719 : decode code 719 = .ok (.ireturn, 1) := by decide +kernel
theorem d_La_law_720 : decode code 720 = .ok (.iload 5, 2) := by decide +kernel
theorem d_La_law_722 : decode code 722 = .ok (.ifCond .ne 15, 3) := by decide +kernel
theorem d_La_law_725 : decode code 725 = .ok (.aload_n 3, 1) := by decide +kernel
theorem d_La_law_726 : decode code 726 = .ok (.iconst 0, 1) := by decide +kernel
theorem d_La_law_727 : decode code 727 = .ok (.laload, 1) := by decide +kernel
theorem d_La_law_728 : decode code 728 = .ok (.iload 6, 2) := by decide +kernel
theorem d_La_law_730 : decode code 730 = .ok (.i2l, 1) := by decide +kernel
theorem d_La_law_731 : decode code 731 = .ok (.lcmp, 1) := by decide +kernel
theorem d_La_law_732 : decode code 732 = .ok (.ifCond .eq 5, 3) := by decide +kernel
theorem d_La_law_735 : decode code 735 = .ok (.iconst 0, 1) := by decide +kernel
theorem d_La_law_736 : decode code 736 = .ok (.ireturn, 1) := by decide +kernel
theorem d_La_law_737 : decode code 737 = .ok (.goto 549, 3) := by decide +kernel
theorem d_La_law_740 : decode code 740 = .ok (.aload_n 1, 1) := by decide +kernel
theorem d_La_law_741 : decode code 741 = .ok (.aload_n 0, 1) := by decide +kernel
theorem d_La_law_742 : decode code 742 = .ok (.iload 4, 2) := by decide +kernel
theorem d_La_law_744 : decode code 744 = .ok (.iconst 1, 1) := by decide +kernel
theorem d_La_law_745 : decode code 745 = .ok (.iadd, 1) := by decide +kernel
theorem d_La_law_746 : decode code 746 = .ok (.iaload, 1) := by decide +kernel
theorem d_La_law_747 : decode code 747 = .ok (.aload_n 0, 1) := by decide +kernel
theorem d_La_law_748 : decode code 748 = .ok (.iload 4, 2) := by decide +kernel
theorem d_La_law_750 : decode code 750 = .ok (.iconst 2, 1) := by decide +kernel
theorem d_La_law_751 : decode code 751 = .ok (.iadd, 1) := by decide +kernel
theorem d_La_law_752 : decode code 752 = .ok (.iaload, 1) := by decide +kernel
theorem d_La_law_753 : decode code 753 = .ok (.aload_n 3, 1) := by decide +kernel
theorem d_La_law_754 : decode code 754 = .ok (.invokestatic 102, 3) := by decide +kernel
theorem d_La_law_757 : decode code 757 = .ok (.istore 5, 2) := by decide +kernel
theorem d_La_law_759 : decode code 759 = .ok (.aload_n 2, 1) := by decide +kernel
theorem d_La_law_760 : decode code 760 = .ok (.aload_n 0, 1) := by decide +kernel
theorem d_La_law_761 : decode code 761 = .ok (.iload 4, 2) := by decide +kernel
theorem d_La_law_763 : decode code 763 = .ok (.iconst 1, 1) := by decide +kernel
theorem d_La_law_764 : decode code 764 = .ok (.iadd, 1) := by decide +kernel
theorem d_La_law_765 : decode code 765 = .ok (.iaload, 1) := by decide +kernel
theorem d_La_law_766 : decode code 766 = .ok (.aload_n 0, 1) := by decide +kernel
theorem d_La_law_767 : decode code 767 = .ok (.iload 4, 2) := by decide +kernel
theorem d_La_law_769 : decode code 769 = .ok (.iconst 2, 1) := by decide +kernel
theorem d_La_law_770 : decode code 770 = .ok (.iadd, 1) := by decide +kernel
theorem d_La_law_771 : decode code 771 = .ok (.iaload, 1) := by decide +kernel
theorem d_La_law_772 : decode code 772 = .ok (.invokevirtual 104, 3) := by decide +kernel
theorem d_La_law_775 : decode code 775 = .ok (.istore 6, 2) := by decide +kernel
theorem d_La_law_777 : decode code 777 = .ok (.aload_n 2, 1) := by decide +kernel
theorem d_La_law_778 : decode code 778 = .ok (.invokevirtual 76, 3) := by decide +kernel
theorem d_La_law_781 : decode code 781 = .ok (.iload 5, 2) := by decide +kernel
theorem d_La_law_783 : decode code 783 = .ok (.if_icmp .eq 5, 3) := by decide +kernel
theorem d_La_law_786 : decode code 786 = .ok (.iconst 0, 1) := by decide +kernel
theorem d_La_law_787 : decode code 787 = .ok (.ireturn, 1) := by decide +kernel
theorem d_La_law_788 : decode code 788 = .ok (.iload 5, 2) := by decide +kernel
theorem d_La_law_790 : decode code 790 = .ok (.ifCond .ne 15, 3) := by decide +kernel
theorem d_La_law_793 : decode code 793 = .ok (.aload_n 3, 1) := by decide +kernel
theorem d_La_law_794 : decode code 794 = .ok (.iconst 0, 1) := by decide +kernel
theorem d_La_law_795 : decode code 795 = .ok (.laload, 1) := by decide +kernel
theorem d_La_law_796 : decode code 796 = .ok (.iload 6, 2) := by decide +kernel
theorem d_La_law_798 : decode code 798 = .ok (.i2l, 1) := by decide +kernel
theorem d_La_law_799 : decode code 799 = .ok (.lcmp, 1) := by decide +kernel
theorem d_La_law_800 : decode code 800 = .ok (.ifCond .eq 5, 3) := by decide +kernel
theorem d_La_law_803 : decode code 803 = .ok (.iconst 0, 1) := by decide +kernel
theorem d_La_law_804 : decode code 804 = .ok (.ireturn, 1) := by decide +kernel
theorem d_La_law_805 : decode code 805 = .ok (.goto 481, 3) := by decide +kernel
theorem d_La_law_808 : decode code 808 = .ok (.aload_n 1, 1) := by decide +kernel
theorem d_La_law_809 : decode code 809 = .ok (.aload_n 0, 1) := by decide +kernel
theorem d_La_law_810 : decode code 810 = .ok (.iload 4, 2) := by decide +kernel
theorem d_La_law_812 : decode code 812 = .ok (.iconst 1, 1) := by decide +kernel
theorem d_La_law_813 : decode code 813 = .ok (.iadd, 1) := by decide +kernel
theorem d_La_law_814 : decode code 814 = .ok (.iaload, 1) := by decide +kernel
theorem d_La_law_815 : decode code 815 = .ok (.aload_n 0, 1) := by decide +kernel
theorem d_La_law_816 : decode code 816 = .ok (.iload 4, 2) := by decide +kernel
theorem d_La_law_818 : decode code 818 = .ok (.iconst 2, 1) := by decide +kernel
theorem d_La_law_819 : decode code 819 = .ok (.iadd, 1) := by decide +kernel
theorem d_La_law_820 : decode code 820 = .ok (.iaload, 1) := by decide +kernel
theorem d_La_law_821 : decode code 821 = .ok (.aload_n 0, 1) := by decide +kernel
theorem d_La_law_822 : decode code 822 = .ok (.iload 4, 2) := by decide +kernel
theorem d_La_law_824 : decode code 824 = .ok (.iconst 3, 1) := by decide +kernel
theorem d_La_law_825 : decode code 825 = .ok (.iadd, 1) := by decide +kernel
theorem d_La_law_826 : decode code 826 = .ok (.iaload, 1) := by decide +kernel
theorem d_La_law_827 : decode code 827 = .ok (.aload_n 3, 1) := by decide +kernel
theorem d_La_law_828 : decode code 828 = .ok (.invokestatic 105, 3) := by decide +kernel
theorem d_La_law_831 : decode code 831 = .ok (.istore 5, 2) := by decide +kernel
theorem d_La_law_833 : decode code 833 = .ok (.aload_n 2, 1) := by decide +kernel
theorem d_La_law_834 : decode code 834 = .ok (.aload_n 0, 1) := by decide +kernel
theorem d_La_law_835 : decode code 835 = .ok (.iload 4, 2) := by decide +kernel
theorem d_La_law_837 : decode code 837 = .ok (.iconst 1, 1) := by decide +kernel
theorem d_La_law_838 : decode code 838 = .ok (.iadd, 1) := by decide +kernel
theorem d_La_law_839 : decode code 839 = .ok (.iaload, 1) := by decide +kernel
theorem d_La_law_840 : decode code 840 = .ok (.aload_n 0, 1) := by decide +kernel
theorem d_La_law_841 : decode code 841 = .ok (.iload 4, 2) := by decide +kernel
theorem d_La_law_843 : decode code 843 = .ok (.iconst 2, 1) := by decide +kernel
theorem d_La_law_844 : decode code 844 = .ok (.iadd, 1) := by decide +kernel
theorem d_La_law_845 : decode code 845 = .ok (.iaload, 1) := by decide +kernel
theorem d_La_law_846 : decode code 846 = .ok (.aload_n 0, 1) := by decide +kernel
theorem d_La_law_847 : decode code 847 = .ok (.iload 4, 2) := by decide +kernel
theorem d_La_law_849 : decode code 849 = .ok (.iconst 3, 1) := by decide +kernel
theorem d_La_law_850 : decode code 850 = .ok (.iadd, 1) := by decide +kernel
theorem d_La_law_851 : decode code 851 = .ok (.iaload, 1) := by decide +kernel
theorem d_La_law_852 : decode code 852 = .ok (.invokevirtual 107, 3) := by decide +kernel
theorem d_La_law_855 : decode code 855 = .ok (.istore 6, 2) := by decide +kernel
theorem d_La_law_857 : decode code 857 = .ok (.aload_n 2, 1) := by decide +kernel
theorem d_La_law_858 : decode code 858 = .ok (.invokevirtual 76, 3) := by decide +kernel
theorem d_La_law_861 : decode code 861 = .ok (.iload 5, 2) := by decide +kernel
theorem d_La_law_863 : decode code 863 = .ok (.if_icmp .eq 5, 3) := by decide +kernel
theorem d_La_law_866 : decode code 866 = .ok (.iconst 0, 1) := by decide +kernel
theorem d_La_law_867 : decode code 867 = .ok (.ireturn, 1) := by decide +kernel
theorem d_La_law_868 : decode code 868 = .ok (.iload 5, 2) := by decide +kernel
theorem d_La_law_870 : decode code 870 = .ok (.ifCond .ne 15, 3) := by decide +kernel
theorem d_La_law_873 : decode code 873 = .ok (.aload_n 3, 1) := by decide +kernel
theorem d_La_law_874 : decode code 874 = .ok (.iconst 0, 1) := by decide +kernel
theorem d_La_law_875 : decode code 875 = .ok (.laload, 1) := by decide +kernel
theorem d_La_law_876 : decode code 876 = .ok (.iload 6, 2) := by decide +kernel
theorem d_La_law_878 : decode code 878 = .ok (.i2l, 1) := by decide +kernel
theorem d_La_law_879 : decode code 879 = .ok (.lcmp, 1) := by decide +kernel
theorem d_La_law_880 : decode code 880 = .ok (.ifCond .eq 5, 3) := by decide +kernel
theorem d_La_law_883 : decode code 883 = .ok (.iconst 0, 1) := by decide +kernel
theorem d_La_law_884 : decode code 884 = .ok (.ireturn, 1) := by decide +kernel
theorem d_La_law_885 : decode code 885 = .ok (.goto 401, 3) := by decide +kernel
theorem d_La_law_888 : decode code 888 = .ok (.aload_n 1, 1) := by decide +kernel
theorem d_La_law_889 : decode code 889 = .ok (.invokevirtual 108, 3) := by decide +kernel
theorem d_La_law_892 : decode code 892 = .ok (.aload_n 2, 1) := by decide +kernel
theorem d_La_law_893 : decode code 893 = .ok (.invokevirtual 111, 3) := by decide +kernel
theorem d_La_law_896 : decode code 896 = .ok (.if_icmp .eq 390, 3) := by decide +kernel
theorem d_La_law_899 : decode code 899 = .ok (.iconst 0, 1) := by decide +kernel
theorem d_La_law_900 : decode code 900 = .ok (.ireturn, 1) := by decide +kernel
theorem d_La_law_901 : decode code 901 = .ok (.aload_n 1, 1) := by decide +kernel
theorem d_La_law_902 : decode code 902 = .ok (.invokevirtual 112, 3) := by decide +kernel
theorem d_La_law_905 : decode code 905 = .ok (.aload_n 2, 1) := by decide +kernel
theorem d_La_law_906 : decode code 906 = .ok (.invokevirtual 115, 3) := by decide +kernel
theorem d_La_law_909 : decode code 909 = .ok (.if_icmp .eq 377, 3) := by decide +kernel
theorem d_La_law_912 : decode code 912 = .ok (.iconst 0, 1) := by decide +kernel
theorem d_La_law_913 : decode code 913 = .ok (.ireturn, 1) := by decide +kernel
theorem d_La_law_914 : decode code 914 = .ok (.aload_n 1, 1) := by decide +kernel
theorem d_La_law_915 : decode code 915 = .ok (.aload_n 0, 1) := by decide +kernel
theorem d_La_law_916 : decode code 916 = .ok (.iload 4, 2) := by decide +kernel
theorem d_La_law_918 : decode code 918 = .ok (.iconst 1, 1) := by decide +kernel
theorem d_La_law_919 : decode code 919 = .ok (.iadd, 1) := by decide +kernel
theorem d_La_law_920 : decode code 920 = .ok (.iaload, 1) := by decide +kernel
theorem d_La_law_921 : decode code 921 = .ok (.aload_n 0, 1) := by decide +kernel
theorem d_La_law_922 : decode code 922 = .ok (.iload 4, 2) := by decide +kernel
theorem d_La_law_924 : decode code 924 = .ok (.iconst 2, 1) := by decide +kernel
theorem d_La_law_925 : decode code 925 = .ok (.iadd, 1) := by decide +kernel
theorem d_La_law_926 : decode code 926 = .ok (.iaload, 1) := by decide +kernel
theorem d_La_law_927 : decode code 927 = .ok (.aload_n 0, 1) := by decide +kernel
theorem d_La_law_928 : decode code 928 = .ok (.iload 4, 2) := by decide +kernel
theorem d_La_law_930 : decode code 930 = .ok (.iconst 3, 1) := by decide +kernel
theorem d_La_law_931 : decode code 931 = .ok (.iadd, 1) := by decide +kernel
theorem d_La_law_932 : decode code 932 = .ok (.iaload, 1) := by decide +kernel
theorem d_La_law_933 : decode code 933 = .ok (.aload_n 3, 1) := by decide +kernel
theorem d_La_law_934 : decode code 934 = .ok (.invokestatic 116, 3) := by decide +kernel
theorem d_La_law_937 : decode code 937 = .ok (.istore 5, 2) := by decide +kernel
theorem d_La_law_939 : decode code 939 = .ok (.aload_n 2, 1) := by decide +kernel
theorem d_La_law_940 : decode code 940 = .ok (.aload_n 0, 1) := by decide +kernel
theorem d_La_law_941 : decode code 941 = .ok (.iload 4, 2) := by decide +kernel
theorem d_La_law_943 : decode code 943 = .ok (.iconst 1, 1) := by decide +kernel
theorem d_La_law_944 : decode code 944 = .ok (.iadd, 1) := by decide +kernel
theorem d_La_law_945 : decode code 945 = .ok (.iaload, 1) := by decide +kernel
theorem d_La_law_946 : decode code 946 = .ok (.aload_n 0, 1) := by decide +kernel
theorem d_La_law_947 : decode code 947 = .ok (.iload 4, 2) := by decide +kernel
theorem d_La_law_949 : decode code 949 = .ok (.iconst 2, 1) := by decide +kernel
theorem d_La_law_950 : decode code 950 = .ok (.iadd, 1) := by decide +kernel
theorem d_La_law_951 : decode code 951 = .ok (.iaload, 1) := by decide +kernel
theorem d_La_law_952 : decode code 952 = .ok (.aload_n 0, 1) := by decide +kernel
theorem d_La_law_953 : decode code 953 = .ok (.iload 4, 2) := by decide +kernel
theorem d_La_law_955 : decode code 955 = .ok (.iconst 3, 1) := by decide +kernel
theorem d_La_law_956 : decode code 956 = .ok (.iadd, 1) := by decide +kernel
theorem d_La_law_957 : decode code 957 = .ok (.iaload, 1) := by decide +kernel
theorem d_La_law_958 : decode code 958 = .ok (.invokevirtual 118, 3) := by decide +kernel
theorem d_La_law_961 : decode code 961 = .ok (.istore 6, 2) := by decide +kernel
theorem d_La_law_963 : decode code 963 = .ok (.aload_n 2, 1) := by decide +kernel
theorem d_La_law_964 : decode code 964 = .ok (.invokevirtual 76, 3) := by decide +kernel
theorem d_La_law_967 : decode code 967 = .ok (.iload 5, 2) := by decide +kernel
theorem d_La_law_969 : decode code 969 = .ok (.if_icmp .eq 5, 3) := by decide +kernel
theorem d_La_law_972 : decode code 972 = .ok (.iconst 0, 1) := by decide +kernel
theorem d_La_law_973 : decode code 973 = .ok (.ireturn, 1) := by decide +kernel
theorem d_La_law_974 : decode code 974 = .ok (.iload 5, 2) := by decide +kernel
theorem d_La_law_976 : decode code 976 = .ok (.ifCond .ne 15, 3) := by decide +kernel
theorem d_La_law_979 : decode code 979 = .ok (.aload_n 3, 1) := by decide +kernel
theorem d_La_law_980 : decode code 980 = .ok (.iconst 0, 1) := by decide +kernel
theorem d_La_law_981 : decode code 981 = .ok (.laload, 1) := by decide +kernel
theorem d_La_law_982 : decode code 982 = .ok (.iload 6, 2) := by decide +kernel
theorem d_La_law_984 : decode code 984 = .ok (.i2l, 1) := by decide +kernel
theorem d_La_law_985 : decode code 985 = .ok (.lcmp, 1) := by decide +kernel
theorem d_La_law_986 : decode code 986 = .ok (.ifCond .eq 5, 3) := by decide +kernel
theorem d_La_law_989 : decode code 989 = .ok (.iconst 0, 1) := by decide +kernel
theorem d_La_law_990 : decode code 990 = .ok (.ireturn, 1) := by decide +kernel
theorem d_La_law_991 : decode code 991 = .ok (.goto 295, 3) := by decide +kernel
theorem d_La_law_994 : decode code 994 = .ok (.aload_n 1, 1) := by decide +kernel
theorem d_La_law_995 : decode code 995 = .ok (.aload_n 0, 1) := by decide +kernel
theorem d_La_law_996 : decode code 996 = .ok (.iload 4, 2) := by decide +kernel
theorem d_La_law_998 : decode code 998 = .ok (.iconst 1, 1) := by decide +kernel
theorem d_La_law_999 : decode code 999 = .ok (.iadd, 1) := by decide +kernel
theorem d_La_law_1000 : decode code 1000 = .ok (.iaload, 1) := by decide +kernel
theorem d_La_law_1001 : decode code 1001 = .ok (.aload_n 0, 1) := by decide +kernel
theorem d_La_law_1002 : decode code 1002 = .ok (.iload 4, 2) := by decide +kernel
theorem d_La_law_1004 : decode code 1004 = .ok (.iconst 2, 1) := by decide +kernel
theorem d_La_law_1005 : decode code 1005 = .ok (.iadd, 1) := by decide +kernel
theorem d_La_law_1006 : decode code 1006 = .ok (.iaload, 1) := by decide +kernel
theorem d_La_law_1007 : decode code 1007 = .ok (.aload_n 3, 1) := by decide +kernel
theorem d_La_law_1008 : decode code 1008 = .ok (.invokestatic 119, 3) := by decide +kernel
theorem d_La_law_1011 : decode code 1011 = .ok (.istore 5, 2) := by decide +kernel
theorem d_La_law_1013 : decode code 1013 = .ok (.aload_n 2, 1) := by decide +kernel
theorem d_La_law_1014 : decode code 1014 = .ok (.aload_n 0, 1) := by decide +kernel
theorem d_La_law_1015 : decode code 1015 = .ok (.iload 4, 2) := by decide +kernel
theorem d_La_law_1017 : decode code 1017 = .ok (.iconst 1, 1) := by decide +kernel
theorem d_La_law_1018 : decode code 1018 = .ok (.iadd, 1) := by decide +kernel
theorem d_La_law_1019 : decode code 1019 = .ok (.iaload, 1) := by decide +kernel
theorem d_La_law_1020 : decode code 1020 = .ok (.aload_n 0, 1) := by decide +kernel
theorem d_La_law_1021 : decode code 1021 = .ok (.iload 4, 2) := by decide +kernel
theorem d_La_law_1023 : decode code 1023 = .ok (.iconst 2, 1) := by decide +kernel
theorem d_La_law_1024 : decode code 1024 = .ok (.iadd, 1) := by decide +kernel
theorem d_La_law_1025 : decode code 1025 = .ok (.iaload, 1) := by decide +kernel
theorem d_La_law_1026 : decode code 1026 = .ok (.invokevirtual 121, 3) := by decide +kernel
theorem d_La_law_1029 : decode code 1029 = .ok (.istore 6, 2) := by decide +kernel
theorem d_La_law_1031 : decode code 1031 = .ok (.aload_n 2, 1) := by decide +kernel
theorem d_La_law_1032 : decode code 1032 = .ok (.invokevirtual 76, 3) := by decide +kernel
theorem d_La_law_1035 : decode code 1035 = .ok (.iload 5, 2) := by decide +kernel
theorem d_La_law_1037 : decode code 1037 = .ok (.if_icmp .eq 5, 3) := by decide +kernel
theorem d_La_law_1040 : decode code 1040 = .ok (.iconst 0, 1) := by decide +kernel
theorem d_La_law_1041 : decode code 1041 = .ok (.ireturn, 1) := by decide +kernel
theorem d_La_law_1042 : decode code 1042 = .ok (.iload 5, 2) := by decide +kernel
theorem d_La_law_1044 : decode code 1044 = .ok (.ifCond .ne 15, 3) := by decide +kernel
theorem d_La_law_1047 : decode code 1047 = .ok (.aload_n 3, 1) := by decide +kernel
theorem d_La_law_1048 : decode code 1048 = .ok (.iconst 0, 1) := by decide +kernel
theorem d_La_law_1049 : decode code 1049 = .ok (.laload, 1) := by decide +kernel
theorem d_La_law_1050 : decode code 1050 = .ok (.iload 6, 2) := by decide +kernel
theorem d_La_law_1052 : decode code 1052 = .ok (.i2l, 1) := by decide +kernel
theorem d_La_law_1053 : decode code 1053 = .ok (.lcmp, 1) := by decide +kernel
theorem d_La_law_1054 : decode code 1054 = .ok (.ifCond .eq 5, 3) := by decide +kernel
theorem d_La_law_1057 : decode code 1057 = .ok (.iconst 0, 1) := by decide +kernel
theorem d_La_law_1058 : decode code 1058 = .ok (.ireturn, 1) := by decide +kernel
theorem d_La_law_1059 : decode code 1059 = .ok (.goto 227, 3) := by decide +kernel
theorem d_La_law_1062 : decode code 1062 = .ok (.aload_n 1, 1) := by decide +kernel
theorem d_La_law_1063 : decode code 1063 = .ok (.aload_n 0, 1) := by decide +kernel
theorem d_La_law_1064 : decode code 1064 = .ok (.iload 4, 2) := by decide +kernel
theorem d_La_law_1066 : decode code 1066 = .ok (.iconst 1, 1) := by decide +kernel
theorem d_La_law_1067 : decode code 1067 = .ok (.iadd, 1) := by decide +kernel
theorem d_La_law_1068 : decode code 1068 = .ok (.iaload, 1) := by decide +kernel
theorem d_La_law_1069 : decode code 1069 = .ok (.aload_n 3, 1) := by decide +kernel
theorem d_La_law_1070 : decode code 1070 = .ok (.invokestatic 122, 3) := by decide +kernel
theorem d_La_law_1073 : decode code 1073 = .ok (.istore 5, 2) := by decide +kernel
theorem d_La_law_1075 : decode code 1075 = .ok (.aload_n 2, 1) := by decide +kernel
theorem d_La_law_1076 : decode code 1076 = .ok (.aload_n 0, 1) := by decide +kernel
theorem d_La_law_1077 : decode code 1077 = .ok (.iload 4, 2) := by decide +kernel
theorem d_La_law_1079 : decode code 1079 = .ok (.iconst 1, 1) := by decide +kernel
theorem d_La_law_1080 : decode code 1080 = .ok (.iadd, 1) := by decide +kernel
theorem d_La_law_1081 : decode code 1081 = .ok (.iaload, 1) := by decide +kernel
theorem d_La_law_1082 : decode code 1082 = .ok (.invokevirtual 125, 3) := by decide +kernel
theorem d_La_law_1085 : decode code 1085 = .ok (.istore 6, 2) := by decide +kernel
theorem d_La_law_1087 : decode code 1087 = .ok (.aload_n 2, 1) := by decide +kernel
theorem d_La_law_1088 : decode code 1088 = .ok (.invokevirtual 76, 3) := by decide +kernel
theorem d_La_law_1091 : decode code 1091 = .ok (.iload 5, 2) := by decide +kernel
theorem d_La_law_1093 : decode code 1093 = .ok (.if_icmp .eq 5, 3) := by decide +kernel
theorem d_La_law_1096 : decode code 1096 = .ok (.iconst 0, 1) := by decide +kernel
theorem d_La_law_1097 : decode code 1097 = .ok (.ireturn, 1) := by decide +kernel
theorem d_La_law_1098 : decode code 1098 = .ok (.iload 5, 2) := by decide +kernel
theorem d_La_law_1100 : decode code 1100 = .ok (.ifCond .ne 15, 3) := by decide +kernel
theorem d_La_law_1103 : decode code 1103 = .ok (.aload_n 3, 1) := by decide +kernel
theorem d_La_law_1104 : decode code 1104 = .ok (.iconst 0, 1) := by decide +kernel
theorem d_La_law_1105 : decode code 1105 = .ok (.laload, 1) := by decide +kernel
theorem d_La_law_1106 : decode code 1106 = .ok (.iload 6, 2) := by decide +kernel
theorem d_La_law_1108 : decode code 1108 = .ok (.i2l, 1) := by decide +kernel
theorem d_La_law_1109 : decode code 1109 = .ok (.lcmp, 1) := by decide +kernel
theorem d_La_law_1110 : decode code 1110 = .ok (.ifCond .eq 5, 3) := by decide +kernel
theorem d_La_law_1113 : decode code 1113 = .ok (.iconst 0, 1) := by decide +kernel
theorem d_La_law_1114 : decode code 1114 = .ok (.ireturn, 1) := by decide +kernel
theorem d_La_law_1115 : decode code 1115 = .ok (.goto 171, 3) := by decide +kernel
theorem d_La_law_1118 : decode code 1118 = .ok (.aload_n 1, 1) := by decide +kernel
theorem d_La_law_1119 : decode code 1119 = .ok (.aload_n 0, 1) := by decide +kernel
theorem d_La_law_1120 : decode code 1120 = .ok (.iload 4, 2) := by decide +kernel
theorem d_La_law_1122 : decode code 1122 = .ok (.iconst 1, 1) := by decide +kernel
theorem d_La_law_1123 : decode code 1123 = .ok (.iadd, 1) := by decide +kernel
theorem d_La_law_1124 : decode code 1124 = .ok (.iaload, 1) := by decide +kernel
theorem d_La_law_1125 : decode code 1125 = .ok (.aload_n 3, 1) := by decide +kernel
theorem d_La_law_1126 : decode code 1126 = .ok (.invokestatic 126, 3) := by decide +kernel
theorem d_La_law_1129 : decode code 1129 = .ok (.istore 5, 2) := by decide +kernel
theorem d_La_law_1131 : decode code 1131 = .ok (.aload_n 2, 1) := by decide +kernel
theorem d_La_law_1132 : decode code 1132 = .ok (.aload_n 0, 1) := by decide +kernel
theorem d_La_law_1133 : decode code 1133 = .ok (.iload 4, 2) := by decide +kernel
theorem d_La_law_1135 : decode code 1135 = .ok (.iconst 1, 1) := by decide +kernel
theorem d_La_law_1136 : decode code 1136 = .ok (.iadd, 1) := by decide +kernel
theorem d_La_law_1137 : decode code 1137 = .ok (.iaload, 1) := by decide +kernel
theorem d_La_law_1138 : decode code 1138 = .ok (.invokevirtual 128, 3) := by decide +kernel
theorem d_La_law_1141 : decode code 1141 = .ok (.istore 6, 2) := by decide +kernel
theorem d_La_law_1143 : decode code 1143 = .ok (.aload_n 2, 1) := by decide +kernel
theorem d_La_law_1144 : decode code 1144 = .ok (.invokevirtual 76, 3) := by decide +kernel
theorem d_La_law_1147 : decode code 1147 = .ok (.iload 5, 2) := by decide +kernel
theorem d_La_law_1149 : decode code 1149 = .ok (.if_icmp .eq 5, 3) := by decide +kernel
theorem d_La_law_1152 : decode code 1152 = .ok (.iconst 0, 1) := by decide +kernel
theorem d_La_law_1153 : decode code 1153 = .ok (.ireturn, 1) := by decide +kernel
theorem d_La_law_1154 : decode code 1154 = .ok (.iload 5, 2) := by decide +kernel
theorem d_La_law_1156 : decode code 1156 = .ok (.ifCond .ne 15, 3) := by decide +kernel
theorem d_La_law_1159 : decode code 1159 = .ok (.aload_n 3, 1) := by decide +kernel
theorem d_La_law_1160 : decode code 1160 = .ok (.iconst 0, 1) := by decide +kernel
theorem d_La_law_1161 : decode code 1161 = .ok (.laload, 1) := by decide +kernel
theorem d_La_law_1162 : decode code 1162 = .ok (.iload 6, 2) := by decide +kernel
theorem d_La_law_1164 : decode code 1164 = .ok (.i2l, 1) := by decide +kernel
theorem d_La_law_1165 : decode code 1165 = .ok (.lcmp, 1) := by decide +kernel
theorem d_La_law_1166 : decode code 1166 = .ok (.ifCond .eq 5, 3) := by decide +kernel
theorem d_La_law_1169 : decode code 1169 = .ok (.iconst 0, 1) := by decide +kernel
theorem d_La_law_1170 : decode code 1170 = .ok (.ireturn, 1) := by decide +kernel
theorem d_La_law_1171 : decode code 1171 = .ok (.goto 115, 3) := by decide +kernel
theorem d_La_law_1174 : decode code 1174 = .ok (.aload_n 1, 1) := by decide +kernel
theorem d_La_law_1175 : decode code 1175 = .ok (.invokevirtual 129, 3) := by decide +kernel
theorem d_La_law_1178 : decode code 1178 = .ok (.aload_n 2, 1) := by decide +kernel
theorem d_La_law_1179 : decode code 1179 = .ok (.invokevirtual 132, 3) := by decide +kernel
theorem d_La_law_1182 : decode code 1182 = .ok (.if_icmp .eq 104, 3) := by decide +kernel
theorem d_La_law_1185 : decode code 1185 = .ok (.iconst 0, 1) := by decide +kernel
theorem d_La_law_1186 : decode code 1186 = .ok (.ireturn, 1) := by decide +kernel
theorem d_La_law_1187 : decode code 1187 = .ok (.aload_n 1, 1) := by decide +kernel
theorem d_La_law_1188 : decode code 1188 = .ok (.aload_n 0, 1) := by decide +kernel
theorem d_La_law_1189 : decode code 1189 = .ok (.iload 4, 2) := by decide +kernel
theorem d_La_law_1191 : decode code 1191 = .ok (.iconst 1, 1) := by decide +kernel
theorem d_La_law_1192 : decode code 1192 = .ok (.iadd, 1) := by decide +kernel
theorem d_La_law_1193 : decode code 1193 = .ok (.iaload, 1) := by decide +kernel
theorem d_La_law_1194 : decode code 1194 = .ok (.i2l, 1) := by decide +kernel
theorem d_La_law_1195 : decode code 1195 = .ok (.bipush 32, 2) := by decide +kernel
theorem d_La_law_1197 : decode code 1197 = .ok (.lshl, 1) := by decide +kernel
theorem d_La_law_1198 : decode code 1198 = .ok (.aload_n 0, 1) := by decide +kernel
theorem d_La_law_1199 : decode code 1199 = .ok (.iload 4, 2) := by decide +kernel
theorem d_La_law_1201 : decode code 1201 = .ok (.iconst 2, 1) := by decide +kernel
theorem d_La_law_1202 : decode code 1202 = .ok (.iadd, 1) := by decide +kernel
theorem d_La_law_1203 : decode code 1203 = .ok (.iaload, 1) := by decide +kernel
theorem d_La_law_1204 : decode code 1204 = .ok (.i2l, 1) := by decide +kernel
theorem d_La_law_1205 : decode code 1205 = .ok (.ldc2_w 68, 3) := by decide +kernel
theorem d_La_law_1208 : decode code 1208 = .ok (.land, 1) := by decide +kernel
theorem d_La_law_1209 : decode code 1209 = .ok (.lor, 1) := by decide +kernel
theorem d_La_law_1210 : decode code 1210 = .ok (.aload_n 0, 1) := by decide +kernel
theorem d_La_law_1211 : decode code 1211 = .ok (.iload 4, 2) := by decide +kernel
theorem d_La_law_1213 : decode code 1213 = .ok (.iconst 3, 1) := by decide +kernel
theorem d_La_law_1214 : decode code 1214 = .ok (.iadd, 1) := by decide +kernel
theorem d_La_law_1215 : decode code 1215 = .ok (.iaload, 1) := by decide +kernel
theorem d_La_law_1216 : decode code 1216 = .ok (.aload_n 3, 1) := by decide +kernel
theorem d_La_law_1217 : decode code 1217 = .ok (.invokestatic 133, 3) := by decide +kernel
theorem d_La_law_1220 : decode code 1220 = .ok (.istore 5, 2) := by decide +kernel
theorem d_La_law_1222 : decode code 1222 = .ok (.aload_n 2, 1) := by decide +kernel
theorem d_La_law_1223 : decode code 1223 = .ok (.aload_n 0, 1) := by decide +kernel
theorem d_La_law_1224 : decode code 1224 = .ok (.iload 4, 2) := by decide +kernel
theorem d_La_law_1226 : decode code 1226 = .ok (.iconst 1, 1) := by decide +kernel
theorem d_La_law_1227 : decode code 1227 = .ok (.iadd, 1) := by decide +kernel
theorem d_La_law_1228 : decode code 1228 = .ok (.iaload, 1) := by decide +kernel
theorem d_La_law_1229 : decode code 1229 = .ok (.i2l, 1) := by decide +kernel
theorem d_La_law_1230 : decode code 1230 = .ok (.bipush 32, 2) := by decide +kernel
theorem d_La_law_1232 : decode code 1232 = .ok (.lshl, 1) := by decide +kernel
theorem d_La_law_1233 : decode code 1233 = .ok (.aload_n 0, 1) := by decide +kernel
theorem d_La_law_1234 : decode code 1234 = .ok (.iload 4, 2) := by decide +kernel
theorem d_La_law_1236 : decode code 1236 = .ok (.iconst 2, 1) := by decide +kernel
theorem d_La_law_1237 : decode code 1237 = .ok (.iadd, 1) := by decide +kernel
theorem d_La_law_1238 : decode code 1238 = .ok (.iaload, 1) := by decide +kernel
theorem d_La_law_1239 : decode code 1239 = .ok (.i2l, 1) := by decide +kernel
theorem d_La_law_1240 : decode code 1240 = .ok (.ldc2_w 68, 3) := by decide +kernel
theorem d_La_law_1243 : decode code 1243 = .ok (.land, 1) := by decide +kernel
theorem d_La_law_1244 : decode code 1244 = .ok (.lor, 1) := by decide +kernel
theorem d_La_law_1245 : decode code 1245 = .ok (.aload_n 0, 1) := by decide +kernel
theorem d_La_law_1246 : decode code 1246 = .ok (.iload 4, 2) := by decide +kernel
theorem d_La_law_1248 : decode code 1248 = .ok (.iconst 3, 1) := by decide +kernel
theorem d_La_law_1249 : decode code 1249 = .ok (.iadd, 1) := by decide +kernel
theorem d_La_law_1250 : decode code 1250 = .ok (.iaload, 1) := by decide +kernel
theorem d_La_law_1251 : decode code 1251 = .ok (.invokevirtual 136, 3) := by decide +kernel
theorem d_La_law_1254 : decode code 1254 = .ok (.lstore 6, 2) := by decide +kernel
theorem d_La_law_1256 : decode code 1256 = .ok (.aload_n 2, 1) := by decide +kernel
theorem d_La_law_1257 : decode code 1257 = .ok (.invokevirtual 76, 3) := by decide +kernel
theorem d_La_law_1260 : decode code 1260 = .ok (.iload 5, 2) := by decide +kernel
theorem d_La_law_1262 : decode code 1262 = .ok (.if_icmp .eq 5, 3) := by decide +kernel
theorem d_La_law_1265 : decode code 1265 = .ok (.iconst 0, 1) := by decide +kernel
theorem d_La_law_1266 : decode code 1266 = .ok (.ireturn, 1) := by decide +kernel
theorem d_La_law_1267 : decode code 1267 = .ok (.iload 5, 2) := by decide +kernel
theorem d_La_law_1269 : decode code 1269 = .ok (.ifCond .ne 14, 3) := by decide +kernel
theorem d_La_law_1272 : decode code 1272 = .ok (.aload_n 3, 1) := by decide +kernel
theorem d_La_law_1273 : decode code 1273 = .ok (.iconst 0, 1) := by decide +kernel
theorem d_La_law_1274 : decode code 1274 = .ok (.laload, 1) := by decide +kernel
theorem d_La_law_1275 : decode code 1275 = .ok (.lload 6, 2) := by decide +kernel
theorem d_La_law_1277 : decode code 1277 = .ok (.lcmp, 1) := by decide +kernel
theorem d_La_law_1278 : decode code 1278 = .ok (.ifCond .eq 5, 3) := by decide +kernel
theorem d_La_law_1281 : decode code 1281 = .ok (.iconst 0, 1) := by decide +kernel
theorem d_La_law_1282 : decode code 1282 = .ok (.ireturn, 1) := by decide +kernel
theorem d_La_law_1283 : decode code 1283 = .ok (.goto 3, 3) := by decide +kernel
theorem d_La_law_1286 : decode code 1286 = .ok (.iinc 4 6, 3) := by decide +kernel
theorem d_La_law_1289 : decode code 1289 = .ok (.goto (-1266), 3) := by decide +kernel
theorem d_La_law_1292 : decode code 1292 = .ok (.iconst 1, 1) := by decide +kernel
theorem d_La_law_1293 : decode code 1293 = .ok (.ireturn, 1) := by decide +kernel
