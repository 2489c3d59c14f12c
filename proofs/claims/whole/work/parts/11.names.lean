-- names: classes, methods, their code
/-- the words of the tables that a callee may have too -/
def lw_T : List Cond := lw_tbl.filter goodWord
theorem lw_T_of {w : Cond} (h : w ∈ lw_tbl) (hg : goodWord w = true) : w ∈ lw_T := List.mem_filter.mpr ⟨h, hg⟩
def R_Mill : String := "WholeMill"
def R_Whole : String := "WholeMill$Whole"
def R_Rows : String := "WholeMill$Rows"
def R_Div : String := "WholeMill$Division"
def R_Root : String := "WholeMill$SquareRoot"
def R_Mod : String := "WholeMillModel"
def R_Int : String := "java/lang/Integer"
def R_Math : String := "java/lang/Math"
def R_Sys : String := "java/lang/System"
def F_Mill : u_T := fun k => match k with
  | 0 => ("WholeMill", "registers", "[LWholeMill$Whole;", true)
  | 1 => ("WholeMill", "result", "LWholeMill$Whole;", true)
  | 2 => ("WholeMill", "left", "LWholeMill$Whole;", true)
  | _ => ("WholeMill", "helper", "LWholeMill$Whole;", true)
def t_Mill : Nat → FieldType := fun k => match k with
  | 0 => .array (.object "WholeMill$Whole")
  | _ => .object "WholeMill$Whole"
def F_Whole : u_T := fun k => match k with
  | 0 => ("WholeMill$Whole", "words", "[I", true)
  | _ => ("WholeMill$Whole", "length", "I", false)
def t_Whole : Nat → FieldType := fun k => match k with
  | 0 => .array .int
  | _ => .int
def F_Mod : u_T := fun k => match k with
  | 0 => ("WholeMillModel", "digits", "[I", true)
  | 1 => ("WholeMillModel", "sizes", "[I", true)
  | 2 => ("WholeMillModel", "x", "[I", true)
  | 3 => ("WholeMillModel", "y", "[I", true)
  | 4 => ("WholeMillModel", "z", "[I", true)
  | 5 => ("WholeMillModel", "xs", "I", false)
  | 6 => ("WholeMillModel", "ys", "I", false)
  | _ => ("WholeMillModel", "zs", "I", false)
def t_Mod : Nat → FieldType := fun k => match k with
  | 5 => .int
  | 6 => .int
  | 7 => .int
  | k => if k < 5 then .array .int else .int
theorem n_Mill : ∀ a, a < 4 → ∀ b, b < 4 → a ≠ b → (F_Mill a).2.1 ≠ (F_Mill b).2.1 := by decide +kernel
theorem t_Mill_ok : ∀ k, k < 4 → parseFieldDescriptor (F_Mill k).2.2.1 = some (t_Mill k) := by decide +kernel
theorem n_Whole : ∀ a, a < 2 → ∀ b, b < 2 → a ≠ b → (F_Whole a).2.1 ≠ (F_Whole b).2.1 := by decide +kernel
theorem t_Whole_ok : ∀ k, k < 2 → parseFieldDescriptor (F_Whole k).2.2.1 = some (t_Whole k) := by decide +kernel
theorem n_Mod : ∀ a, a < 8 → ∀ b, b < 8 → a ≠ b → (F_Mod a).2.1 ≠ (F_Mod b).2.1 := by decide +kernel
theorem t_Mod_ok : ∀ k, k < 8 → parseFieldDescriptor (F_Mod k).2.2.1 = some (t_Mod k) := by decide +kernel
theorem i_Mill : ∀ w ∈ u_ws R_Mill F_Mill 4, w ∈ lw_T := by decide +kernel
theorem i_Whole : ∀ w ∈ u_ws R_Whole F_Whole 2, w ∈ lw_T := by decide +kernel
theorem i_Mod : ∀ w ∈ u_ws R_Mod F_Mod 8, w ∈ lw_T := by decide +kernel
abbrev classes : List vw_C := [(R_Mill, F_Mill, 4), (R_Whole, F_Whole, 2), (R_Mod, F_Mod, 8)]
abbrev b_Mill_init : ByteArray := prog_1_method_1_code
def y_Mill_init : MethodName := ⟨R_Mill, "<init>", "()V"⟩
theorem kd_Mill_init : y_Mill_init.cls ≠ "java/lang/invoke/MethodHandle" ∧ y_Mill_init.cls ≠ "java/lang/invoke/VarHandle" ∧ (parseMethodDescriptor y_Mill_init.desc).map (fun d => d.parameters.length) = some 0 := by decide +kernel
abbrev b_Whole_init : ByteArray := prog_5_method_1_code
def y_Whole_init : MethodName := ⟨R_Whole, "<init>", "()V"⟩
theorem kd_Whole_init : y_Whole_init.cls ≠ "java/lang/invoke/MethodHandle" ∧ y_Whole_init.cls ≠ "java/lang/invoke/VarHandle" ∧ (parseMethodDescriptor y_Whole_init.desc).map (fun d => d.parameters.length) = some 0 := by decide +kernel
abbrev b_Mill_push : ByteArray := prog_1_method_2_code
def y_Mill_push : MethodName := ⟨R_Mill, "push", "(IJ)Z"⟩
theorem kd_Mill_push : y_Mill_push.cls ≠ "java/lang/invoke/MethodHandle" ∧ y_Mill_push.cls ≠ "java/lang/invoke/VarHandle" ∧ (parseMethodDescriptor y_Mill_push.desc).map (fun d => d.parameters.length) = some 2 := by decide +kernel
abbrev b_Mill_isRegister : ByteArray := prog_1_method_18_code
def y_Mill_isRegister : MethodName := ⟨R_Mill, "isRegister", "(I)Z"⟩
theorem kd_Mill_isRegister : y_Mill_isRegister.cls ≠ "java/lang/invoke/MethodHandle" ∧ y_Mill_isRegister.cls ≠ "java/lang/invoke/VarHandle" ∧ (parseMethodDescriptor y_Mill_isRegister.desc).map (fun d => d.parameters.length) = some 1 := by decide +kernel
abbrev b_Whole_size : ByteArray := prog_5_method_14_code
def y_Whole_size : MethodName := ⟨R_Whole, "size", "()I"⟩
theorem kd_Whole_size : y_Whole_size.cls ≠ "java/lang/invoke/MethodHandle" ∧ y_Whole_size.cls ≠ "java/lang/invoke/VarHandle" ∧ (parseMethodDescriptor y_Whole_size.desc).map (fun d => d.parameters.length) = some 0 := by decide +kernel
abbrev b_Int_numberOfLeadingZeros : ByteArray := prog_8_method_47_code
def y_Int_numberOfLeadingZeros : MethodName := ⟨R_Int, "numberOfLeadingZeros", "(I)I"⟩
theorem kd_Int_numberOfLeadingZeros : y_Int_numberOfLeadingZeros.cls ≠ "java/lang/invoke/MethodHandle" ∧ y_Int_numberOfLeadingZeros.cls ≠ "java/lang/invoke/VarHandle" ∧ (parseMethodDescriptor y_Int_numberOfLeadingZeros.desc).map (fun d => d.parameters.length) = some 1 := by decide +kernel
abbrev b_Whole_becomeShiftedLeft : ByteArray := prog_5_method_10_code
def y_Whole_becomeShiftedLeft : MethodName := ⟨R_Whole, "becomeShiftedLeft", "(LWholeMill$Whole;I)V"⟩
theorem kd_Whole_becomeShiftedLeft : y_Whole_becomeShiftedLeft.cls ≠ "java/lang/invoke/MethodHandle" ∧ y_Whole_becomeShiftedLeft.cls ≠ "java/lang/invoke/VarHandle" ∧ (parseMethodDescriptor y_Whole_becomeShiftedLeft.desc).map (fun d => d.parameters.length) = some 2 := by decide +kernel
abbrev b_Whole_clear : ByteArray := prog_5_method_3_code
def y_Whole_clear : MethodName := ⟨R_Whole, "clear", "()V"⟩
theorem kd_Whole_clear : y_Whole_clear.cls ≠ "java/lang/invoke/MethodHandle" ∧ y_Whole_clear.cls ≠ "java/lang/invoke/VarHandle" ∧ (parseMethodDescriptor y_Whole_clear.desc).map (fun d => d.parameters.length) = some 0 := by decide +kernel
abbrev b_Whole_settle : ByteArray := prog_5_method_2_code
def y_Whole_settle : MethodName := ⟨R_Whole, "settle", "(I)V"⟩
theorem kd_Whole_settle : y_Whole_settle.cls ≠ "java/lang/invoke/MethodHandle" ∧ y_Whole_settle.cls ≠ "java/lang/invoke/VarHandle" ∧ (parseMethodDescriptor y_Whole_settle.desc).map (fun d => d.parameters.length) = some 1 := by decide +kernel
abbrev b_Whole_fillLowestPair : ByteArray := prog_5_method_6_code
def y_Whole_fillLowestPair : MethodName := ⟨R_Whole, "fillLowestPair", "(J)V"⟩
theorem kd_Whole_fillLowestPair : y_Whole_fillLowestPair.cls ≠ "java/lang/invoke/MethodHandle" ∧ y_Whole_fillLowestPair.cls ≠ "java/lang/invoke/VarHandle" ∧ (parseMethodDescriptor y_Whole_fillLowestPair.desc).map (fun d => d.parameters.length) = some 1 := by decide +kernel
abbrev b_Math_max : ByteArray := prog_9_method_65_code
def y_Math_max : MethodName := ⟨R_Math, "max", "(II)I"⟩
theorem kd_Math_max : y_Math_max.cls ≠ "java/lang/invoke/MethodHandle" ∧ y_Math_max.cls ≠ "java/lang/invoke/VarHandle" ∧ (parseMethodDescriptor y_Math_max.desc).map (fun d => d.parameters.length) = some 2 := by decide +kernel
abbrev b_Mill_keepResult : ByteArray := prog_1_method_19_code
def y_Mill_keepResult : MethodName := ⟨R_Mill, "keepResult", "(I)Z"⟩
theorem kd_Mill_keepResult : y_Mill_keepResult.cls ≠ "java/lang/invoke/MethodHandle" ∧ y_Mill_keepResult.cls ≠ "java/lang/invoke/VarHandle" ∧ (parseMethodDescriptor y_Mill_keepResult.desc).map (fun d => d.parameters.length) = some 1 := by decide +kernel
abbrev b_Whole_become : ByteArray := prog_5_method_4_code
def y_Whole_become : MethodName := ⟨R_Whole, "become", "(LWholeMill$Whole;)V"⟩
theorem kd_Whole_become : y_Whole_become.cls ≠ "java/lang/invoke/MethodHandle" ∧ y_Whole_become.cls ≠ "java/lang/invoke/VarHandle" ∧ (parseMethodDescriptor y_Whole_become.desc).map (fun d => d.parameters.length) = some 1 := by decide +kernel
abbrev b_Mill_spread : ByteArray := prog_1_method_3_code
def y_Mill_spread : MethodName := ⟨R_Mill, "spread", "(IJI)Z"⟩
theorem kd_Mill_spread : y_Mill_spread.cls ≠ "java/lang/invoke/MethodHandle" ∧ y_Mill_spread.cls ≠ "java/lang/invoke/VarHandle" ∧ (parseMethodDescriptor y_Mill_spread.desc).map (fun d => d.parameters.length) = some 3 := by decide +kernel
abbrev b_Whole_becomePairs : ByteArray := prog_5_method_5_code
def y_Whole_becomePairs : MethodName := ⟨R_Whole, "becomePairs", "(JI)V"⟩
theorem kd_Whole_becomePairs : y_Whole_becomePairs.cls ≠ "java/lang/invoke/MethodHandle" ∧ y_Whole_becomePairs.cls ≠ "java/lang/invoke/VarHandle" ∧ (parseMethodDescriptor y_Whole_becomePairs.desc).map (fun d => d.parameters.length) = some 2 := by decide +kernel
abbrev b_Mill_copy : ByteArray := prog_1_method_4_code
def y_Mill_copy : MethodName := ⟨R_Mill, "copy", "(II)Z"⟩
theorem kd_Mill_copy : y_Mill_copy.cls ≠ "java/lang/invoke/MethodHandle" ∧ y_Mill_copy.cls ≠ "java/lang/invoke/VarHandle" ∧ (parseMethodDescriptor y_Mill_copy.desc).map (fun d => d.parameters.length) = some 2 := by decide +kernel
abbrev b_Mill_add : ByteArray := prog_1_method_5_code
def y_Mill_add : MethodName := ⟨R_Mill, "add", "(III)Z"⟩
theorem kd_Mill_add : y_Mill_add.cls ≠ "java/lang/invoke/MethodHandle" ∧ y_Mill_add.cls ≠ "java/lang/invoke/VarHandle" ∧ (parseMethodDescriptor y_Mill_add.desc).map (fun d => d.parameters.length) = some 3 := by decide +kernel
abbrev b_Whole_becomeSum : ByteArray := prog_5_method_7_code
def y_Whole_becomeSum : MethodName := ⟨R_Whole, "becomeSum", "(LWholeMill$Whole;LWholeMill$Whole;)V"⟩
theorem kd_Whole_becomeSum : y_Whole_becomeSum.cls ≠ "java/lang/invoke/MethodHandle" ∧ y_Whole_becomeSum.cls ≠ "java/lang/invoke/VarHandle" ∧ (parseMethodDescriptor y_Whole_becomeSum.desc).map (fun d => d.parameters.length) = some 2 := by decide +kernel
abbrev b_Mill_take : ByteArray := prog_1_method_6_code
def y_Mill_take : MethodName := ⟨R_Mill, "take", "(III)Z"⟩
theorem kd_Mill_take : y_Mill_take.cls ≠ "java/lang/invoke/MethodHandle" ∧ y_Mill_take.cls ≠ "java/lang/invoke/VarHandle" ∧ (parseMethodDescriptor y_Mill_take.desc).map (fun d => d.parameters.length) = some 3 := by decide +kernel
abbrev b_Whole_order : ByteArray := prog_5_method_13_code
def y_Whole_order : MethodName := ⟨R_Whole, "order", "(LWholeMill$Whole;)I"⟩
theorem kd_Whole_order : y_Whole_order.cls ≠ "java/lang/invoke/MethodHandle" ∧ y_Whole_order.cls ≠ "java/lang/invoke/VarHandle" ∧ (parseMethodDescriptor y_Whole_order.desc).map (fun d => d.parameters.length) = some 1 := by decide +kernel
abbrev b_Whole_becomeDifference : ByteArray := prog_5_method_8_code
def y_Whole_becomeDifference : MethodName := ⟨R_Whole, "becomeDifference", "(LWholeMill$Whole;LWholeMill$Whole;)V"⟩
theorem kd_Whole_becomeDifference : y_Whole_becomeDifference.cls ≠ "java/lang/invoke/MethodHandle" ∧ y_Whole_becomeDifference.cls ≠ "java/lang/invoke/VarHandle" ∧ (parseMethodDescriptor y_Whole_becomeDifference.desc).map (fun d => d.parameters.length) = some 2 := by decide +kernel
abbrev b_Mill_times : ByteArray := prog_1_method_7_code
def y_Mill_times : MethodName := ⟨R_Mill, "times", "(III)Z"⟩
theorem kd_Mill_times : y_Mill_times.cls ≠ "java/lang/invoke/MethodHandle" ∧ y_Mill_times.cls ≠ "java/lang/invoke/VarHandle" ∧ (parseMethodDescriptor y_Mill_times.desc).map (fun d => d.parameters.length) = some 3 := by decide +kernel
abbrev b_Whole_becomeProduct : ByteArray := prog_5_method_9_code
def y_Whole_becomeProduct : MethodName := ⟨R_Whole, "becomeProduct", "(LWholeMill$Whole;LWholeMill$Whole;)V"⟩
theorem kd_Whole_becomeProduct : y_Whole_becomeProduct.cls ≠ "java/lang/invoke/MethodHandle" ∧ y_Whole_becomeProduct.cls ≠ "java/lang/invoke/VarHandle" ∧ (parseMethodDescriptor y_Whole_becomeProduct.desc).map (fun d => d.parameters.length) = some 2 := by decide +kernel
abbrev b_Rows_addMultiple : ByteArray := prog_3_method_2_code
def y_Rows_addMultiple : MethodName := ⟨R_Rows, "addMultiple", "([II[IIJ)J"⟩
theorem kd_Rows_addMultiple : y_Rows_addMultiple.cls ≠ "java/lang/invoke/MethodHandle" ∧ y_Rows_addMultiple.cls ≠ "java/lang/invoke/VarHandle" ∧ (parseMethodDescriptor y_Rows_addMultiple.desc).map (fun d => d.parameters.length) = some 5 := by decide +kernel
abbrev b_Mill_divide : ByteArray := prog_1_method_8_code
def y_Mill_divide : MethodName := ⟨R_Mill, "divide", "(IIII)Z"⟩
theorem kd_Mill_divide : y_Mill_divide.cls ≠ "java/lang/invoke/MethodHandle" ∧ y_Mill_divide.cls ≠ "java/lang/invoke/VarHandle" ∧ (parseMethodDescriptor y_Mill_divide.desc).map (fun d => d.parameters.length) = some 4 := by decide +kernel
abbrev b_Div_find : ByteArray := prog_2_method_2_code
def y_Div_find : MethodName := ⟨R_Div, "find", "(LWholeMill$Whole;LWholeMill$Whole;LWholeMill$Whole;LWholeMill$Whole;LWholeMill$Whole;)V"⟩
theorem kd_Div_find : y_Div_find.cls ≠ "java/lang/invoke/MethodHandle" ∧ y_Div_find.cls ≠ "java/lang/invoke/VarHandle" ∧ (parseMethodDescriptor y_Div_find.desc).map (fun d => d.parameters.length) = some 5 := by decide +kernel
abbrev b_Div_nextWord : ByteArray := prog_2_method_3_code
def y_Div_nextWord : MethodName := ⟨R_Div, "nextWord", "([I[III)I"⟩
theorem kd_Div_nextWord : y_Div_nextWord.cls ≠ "java/lang/invoke/MethodHandle" ∧ y_Div_nextWord.cls ≠ "java/lang/invoke/VarHandle" ∧ (parseMethodDescriptor y_Div_nextWord.desc).map (fun d => d.parameters.length) = some 4 := by decide +kernel
abbrev b_Rows_guess : ByteArray := prog_3_method_5_code
def y_Rows_guess : MethodName := ⟨R_Rows, "guess", "(IIIII)J"⟩
theorem kd_Rows_guess : y_Rows_guess.cls ≠ "java/lang/invoke/MethodHandle" ∧ y_Rows_guess.cls ≠ "java/lang/invoke/VarHandle" ∧ (parseMethodDescriptor y_Rows_guess.desc).map (fun d => d.parameters.length) = some 5 := by decide +kernel
abbrev b_Math_minL : ByteArray := prog_9_method_70_code
def y_Math_minL : MethodName := ⟨R_Math, "min", "(JJ)J"⟩
theorem kd_Math_minL : y_Math_minL.cls ≠ "java/lang/invoke/MethodHandle" ∧ y_Math_minL.cls ≠ "java/lang/invoke/VarHandle" ∧ (parseMethodDescriptor y_Math_minL.desc).map (fun d => d.parameters.length) = some 2 := by decide +kernel
abbrev b_Rows_isAbove : ByteArray := prog_3_method_6_code
def y_Rows_isAbove : MethodName := ⟨R_Rows, "isAbove", "(JJ)Z"⟩
theorem kd_Rows_isAbove : y_Rows_isAbove.cls ≠ "java/lang/invoke/MethodHandle" ∧ y_Rows_isAbove.cls ≠ "java/lang/invoke/VarHandle" ∧ (parseMethodDescriptor y_Rows_isAbove.desc).map (fun d => d.parameters.length) = some 2 := by decide +kernel
abbrev b_Rows_takeMultiple : ByteArray := prog_3_method_3_code
def y_Rows_takeMultiple : MethodName := ⟨R_Rows, "takeMultiple", "([II[IIIJ)J"⟩
theorem kd_Rows_takeMultiple : y_Rows_takeMultiple.cls ≠ "java/lang/invoke/MethodHandle" ∧ y_Rows_takeMultiple.cls ≠ "java/lang/invoke/VarHandle" ∧ (parseMethodDescriptor y_Rows_takeMultiple.desc).map (fun d => d.parameters.length) = some 6 := by decide +kernel
abbrev b_Rows_addStretch : ByteArray := prog_3_method_4_code
def y_Rows_addStretch : MethodName := ⟨R_Rows, "addStretch", "([II[IIIJ)J"⟩
theorem kd_Rows_addStretch : y_Rows_addStretch.cls ≠ "java/lang/invoke/MethodHandle" ∧ y_Rows_addStretch.cls ≠ "java/lang/invoke/VarHandle" ∧ (parseMethodDescriptor y_Rows_addStretch.desc).map (fun d => d.parameters.length) = some 6 := by decide +kernel
abbrev b_Whole_becomeShiftedRight : ByteArray := prog_5_method_11_code
def y_Whole_becomeShiftedRight : MethodName := ⟨R_Whole, "becomeShiftedRight", "(LWholeMill$Whole;I)V"⟩
theorem kd_Whole_becomeShiftedRight : y_Whole_becomeShiftedRight.cls ≠ "java/lang/invoke/MethodHandle" ∧ y_Whole_becomeShiftedRight.cls ≠ "java/lang/invoke/VarHandle" ∧ (parseMethodDescriptor y_Whole_becomeShiftedRight.desc).map (fun d => d.parameters.length) = some 2 := by decide +kernel
abbrev b_Mill_root : ByteArray := prog_1_method_9_code
def y_Mill_root : MethodName := ⟨R_Mill, "root", "(III)Z"⟩
theorem kd_Mill_root : y_Mill_root.cls ≠ "java/lang/invoke/MethodHandle" ∧ y_Mill_root.cls ≠ "java/lang/invoke/VarHandle" ∧ (parseMethodDescriptor y_Mill_root.desc).map (fun d => d.parameters.length) = some 3 := by decide +kernel
abbrev b_Root_find : ByteArray := prog_4_method_2_code
def y_Root_find : MethodName := ⟨R_Root, "find", "(LWholeMill$Whole;LWholeMill$Whole;LWholeMill$Whole;LWholeMill$Whole;)V"⟩
theorem kd_Root_find : y_Root_find.cls ≠ "java/lang/invoke/MethodHandle" ∧ y_Root_find.cls ≠ "java/lang/invoke/VarHandle" ∧ (parseMethodDescriptor y_Root_find.desc).map (fun d => d.parameters.length) = some 4 := by decide +kernel
abbrev b_Root_firstWord : ByteArray := prog_4_method_3_code
def y_Root_firstWord : MethodName := ⟨R_Root, "firstWord", "([I[II)V"⟩
theorem kd_Root_firstWord : y_Root_firstWord.cls ≠ "java/lang/invoke/MethodHandle" ∧ y_Root_firstWord.cls ≠ "java/lang/invoke/VarHandle" ∧ (parseMethodDescriptor y_Root_firstWord.desc).map (fun d => d.parameters.length) = some 3 := by decide +kernel
abbrev b_Root_rootOfPair : ByteArray := prog_4_method_4_code
def y_Root_rootOfPair : MethodName := ⟨R_Root, "rootOfPair", "(J)J"⟩
theorem kd_Root_rootOfPair : y_Root_rootOfPair.cls ≠ "java/lang/invoke/MethodHandle" ∧ y_Root_rootOfPair.cls ≠ "java/lang/invoke/VarHandle" ∧ (parseMethodDescriptor y_Root_rootOfPair.desc).map (fun d => d.parameters.length) = some 1 := by decide +kernel
abbrev b_Root_putWord : ByteArray := prog_4_method_7_code
def y_Root_putWord : MethodName := ⟨R_Root, "putWord", "([IIJ)V"⟩
theorem kd_Root_putWord : y_Root_putWord.cls ≠ "java/lang/invoke/MethodHandle" ∧ y_Root_putWord.cls ≠ "java/lang/invoke/VarHandle" ∧ (parseMethodDescriptor y_Root_putWord.desc).map (fun d => d.parameters.length) = some 3 := by decide +kernel
abbrev b_Root_nextWord : ByteArray := prog_4_method_5_code
def y_Root_nextWord : MethodName := ⟨R_Root, "nextWord", "([I[III)V"⟩
theorem kd_Root_nextWord : y_Root_nextWord.cls ≠ "java/lang/invoke/MethodHandle" ∧ y_Root_nextWord.cls ≠ "java/lang/invoke/VarHandle" ∧ (parseMethodDescriptor y_Root_nextWord.desc).map (fun d => d.parameters.length) = some 4 := by decide +kernel
abbrev b_Root_guessWord : ByteArray := prog_4_method_6_code
def y_Root_guessWord : MethodName := ⟨R_Root, "guessWord", "([I[III)J"⟩
theorem kd_Root_guessWord : y_Root_guessWord.cls ≠ "java/lang/invoke/MethodHandle" ∧ y_Root_guessWord.cls ≠ "java/lang/invoke/VarHandle" ∧ (parseMethodDescriptor y_Root_guessWord.desc).map (fun d => d.parameters.length) = some 4 := by decide +kernel
abbrev b_Rows_halved : ByteArray := prog_3_method_7_code
def y_Rows_halved : MethodName := ⟨R_Rows, "halved", "(II)I"⟩
theorem kd_Rows_halved : y_Rows_halved.cls ≠ "java/lang/invoke/MethodHandle" ∧ y_Rows_halved.cls ≠ "java/lang/invoke/VarHandle" ∧ (parseMethodDescriptor y_Rows_halved.desc).map (fun d => d.parameters.length) = some 2 := by decide +kernel
abbrev b_Root_shiftBack : ByteArray := prog_4_method_8_code
def y_Root_shiftBack : MethodName := ⟨R_Root, "shiftBack", "(LWholeMill$Whole;LWholeMill$Whole;LWholeMill$Whole;II)V"⟩
theorem kd_Root_shiftBack : y_Root_shiftBack.cls ≠ "java/lang/invoke/MethodHandle" ∧ y_Root_shiftBack.cls ≠ "java/lang/invoke/VarHandle" ∧ (parseMethodDescriptor y_Root_shiftBack.desc).map (fun d => d.parameters.length) = some 5 := by decide +kernel
abbrev b_Mill_shift : ByteArray := prog_1_method_10_code
def y_Mill_shift : MethodName := ⟨R_Mill, "shift", "(III)Z"⟩
theorem kd_Mill_shift : y_Mill_shift.cls ≠ "java/lang/invoke/MethodHandle" ∧ y_Mill_shift.cls ≠ "java/lang/invoke/VarHandle" ∧ (parseMethodDescriptor y_Mill_shift.desc).map (fun d => d.parameters.length) = some 3 := by decide +kernel
abbrev b_Math_abs : ByteArray := prog_9_method_59_code
def y_Math_abs : MethodName := ⟨R_Math, "abs", "(I)I"⟩
theorem kd_Math_abs : y_Math_abs.cls ≠ "java/lang/invoke/MethodHandle" ∧ y_Math_abs.cls ≠ "java/lang/invoke/VarHandle" ∧ (parseMethodDescriptor y_Math_abs.desc).map (fun d => d.parameters.length) = some 1 := by decide +kernel
abbrev b_Mill_part : ByteArray := prog_1_method_11_code
def y_Mill_part : MethodName := ⟨R_Mill, "part", "(IIII)Z"⟩
theorem kd_Mill_part : y_Mill_part.cls ≠ "java/lang/invoke/MethodHandle" ∧ y_Mill_part.cls ≠ "java/lang/invoke/VarHandle" ∧ (parseMethodDescriptor y_Mill_part.desc).map (fun d => d.parameters.length) = some 4 := by decide +kernel
abbrev b_Math_min : ByteArray := prog_9_method_69_code
def y_Math_min : MethodName := ⟨R_Math, "min", "(II)I"⟩
theorem kd_Math_min : y_Math_min.cls ≠ "java/lang/invoke/MethodHandle" ∧ y_Math_min.cls ≠ "java/lang/invoke/VarHandle" ∧ (parseMethodDescriptor y_Math_min.desc).map (fun d => d.parameters.length) = some 2 := by decide +kernel
abbrev b_Whole_keepLowest : ByteArray := prog_5_method_12_code
def y_Whole_keepLowest : MethodName := ⟨R_Whole, "keepLowest", "(I)V"⟩
theorem kd_Whole_keepLowest : y_Whole_keepLowest.cls ≠ "java/lang/invoke/MethodHandle" ∧ y_Whole_keepLowest.cls ≠ "java/lang/invoke/VarHandle" ∧ (parseMethodDescriptor y_Whole_keepLowest.desc).map (fun d => d.parameters.length) = some 1 := by decide +kernel
abbrev b_Mill_compare : ByteArray := prog_1_method_12_code
def y_Mill_compare : MethodName := ⟨R_Mill, "compare", "(II)I"⟩
theorem kd_Mill_compare : y_Mill_compare.cls ≠ "java/lang/invoke/MethodHandle" ∧ y_Mill_compare.cls ≠ "java/lang/invoke/VarHandle" ∧ (parseMethodDescriptor y_Mill_compare.desc).map (fun d => d.parameters.length) = some 2 := by decide +kernel
abbrev b_Mill_bits : ByteArray := prog_1_method_13_code
def y_Mill_bits : MethodName := ⟨R_Mill, "bits", "(I)I"⟩
theorem kd_Mill_bits : y_Mill_bits.cls ≠ "java/lang/invoke/MethodHandle" ∧ y_Mill_bits.cls ≠ "java/lang/invoke/VarHandle" ∧ (parseMethodDescriptor y_Mill_bits.desc).map (fun d => d.parameters.length) = some 1 := by decide +kernel
abbrev b_Mill_word : ByteArray := prog_1_method_14_code
def y_Mill_word : MethodName := ⟨R_Mill, "word", "(II)I"⟩
theorem kd_Mill_word : y_Mill_word.cls ≠ "java/lang/invoke/MethodHandle" ∧ y_Mill_word.cls ≠ "java/lang/invoke/VarHandle" ∧ (parseMethodDescriptor y_Mill_word.desc).map (fun d => d.parameters.length) = some 2 := by decide +kernel
abbrev b_Mill_ones : ByteArray := prog_1_method_15_code
def y_Mill_ones : MethodName := ⟨R_Mill, "ones", "(I)I"⟩
theorem kd_Mill_ones : y_Mill_ones.cls ≠ "java/lang/invoke/MethodHandle" ∧ y_Mill_ones.cls ≠ "java/lang/invoke/VarHandle" ∧ (parseMethodDescriptor y_Mill_ones.desc).map (fun d => d.parameters.length) = some 1 := by decide +kernel
abbrev b_Whole_countOnes : ByteArray := prog_5_method_15_code
def y_Whole_countOnes : MethodName := ⟨R_Whole, "countOnes", "()I"⟩
theorem kd_Whole_countOnes : y_Whole_countOnes.cls ≠ "java/lang/invoke/MethodHandle" ∧ y_Whole_countOnes.cls ≠ "java/lang/invoke/VarHandle" ∧ (parseMethodDescriptor y_Whole_countOnes.desc).map (fun d => d.parameters.length) = some 0 := by decide +kernel
abbrev b_Int_bitCount : ByteArray := prog_8_method_49_code
def y_Int_bitCount : MethodName := ⟨R_Int, "bitCount", "(I)I"⟩
theorem kd_Int_bitCount : y_Int_bitCount.cls ≠ "java/lang/invoke/MethodHandle" ∧ y_Int_bitCount.cls ≠ "java/lang/invoke/VarHandle" ∧ (parseMethodDescriptor y_Int_bitCount.desc).map (fun d => d.parameters.length) = some 1 := by decide +kernel
abbrev b_Mill_lowest : ByteArray := prog_1_method_16_code
def y_Mill_lowest : MethodName := ⟨R_Mill, "lowest", "(I)I"⟩
theorem kd_Mill_lowest : y_Mill_lowest.cls ≠ "java/lang/invoke/MethodHandle" ∧ y_Mill_lowest.cls ≠ "java/lang/invoke/VarHandle" ∧ (parseMethodDescriptor y_Mill_lowest.desc).map (fun d => d.parameters.length) = some 1 := by decide +kernel
abbrev b_Whole_lowestOne : ByteArray := prog_5_method_16_code
def y_Whole_lowestOne : MethodName := ⟨R_Whole, "lowestOne", "()I"⟩
theorem kd_Whole_lowestOne : y_Whole_lowestOne.cls ≠ "java/lang/invoke/MethodHandle" ∧ y_Whole_lowestOne.cls ≠ "java/lang/invoke/VarHandle" ∧ (parseMethodDescriptor y_Whole_lowestOne.desc).map (fun d => d.parameters.length) = some 0 := by decide +kernel
abbrev b_Int_numberOfTrailingZeros : ByteArray := prog_8_method_48_code
def y_Int_numberOfTrailingZeros : MethodName := ⟨R_Int, "numberOfTrailingZeros", "(I)I"⟩
theorem kd_Int_numberOfTrailingZeros : y_Int_numberOfTrailingZeros.cls ≠ "java/lang/invoke/MethodHandle" ∧ y_Int_numberOfTrailingZeros.cls ≠ "java/lang/invoke/VarHandle" ∧ (parseMethodDescriptor y_Int_numberOfTrailingZeros.desc).map (fun d => d.parameters.length) = some 1 := by decide +kernel
abbrev b_Mill_rest : ByteArray := prog_1_method_17_code
def y_Mill_rest : MethodName := ⟨R_Mill, "rest", "(II)I"⟩
theorem kd_Mill_rest : y_Mill_rest.cls ≠ "java/lang/invoke/MethodHandle" ∧ y_Mill_rest.cls ≠ "java/lang/invoke/VarHandle" ∧ (parseMethodDescriptor y_Mill_rest.desc).map (fun d => d.parameters.length) = some 2 := by decide +kernel
abbrev b_Whole_remainder : ByteArray := prog_5_method_17_code
def y_Whole_remainder : MethodName := ⟨R_Whole, "remainder", "(I)I"⟩
theorem kd_Whole_remainder : y_Whole_remainder.cls ≠ "java/lang/invoke/MethodHandle" ∧ y_Whole_remainder.cls ≠ "java/lang/invoke/VarHandle" ∧ (parseMethodDescriptor y_Whole_remainder.desc).map (fun d => d.parameters.length) = some 1 := by decide +kernel
abbrev b_Mod_init : ByteArray := prog_7_method_1_code
def y_Mod_init : MethodName := ⟨R_Mod, "<init>", "()V"⟩
theorem kd_Mod_init : y_Mod_init.cls ≠ "java/lang/invoke/MethodHandle" ∧ y_Mod_init.cls ≠ "java/lang/invoke/VarHandle" ∧ (parseMethodDescriptor y_Mod_init.desc).map (fun d => d.parameters.length) = some 0 := by decide +kernel
abbrev b_Mod_push : ByteArray := prog_7_method_12_code
def y_Mod_push : MethodName := ⟨R_Mod, "push", "(IJ)Z"⟩
theorem kd_Mod_push : y_Mod_push.cls ≠ "java/lang/invoke/MethodHandle" ∧ y_Mod_push.cls ≠ "java/lang/invoke/VarHandle" ∧ (parseMethodDescriptor y_Mod_push.desc).map (fun d => d.parameters.length) = some 2 := by decide +kernel
abbrev b_Mod_isRegister : ByteArray := prog_7_method_2_code
def y_Mod_isRegister : MethodName := ⟨R_Mod, "isRegister", "(I)Z"⟩
theorem kd_Mod_isRegister : y_Mod_isRegister.cls ≠ "java/lang/invoke/MethodHandle" ∧ y_Mod_isRegister.cls ≠ "java/lang/invoke/VarHandle" ∧ (parseMethodDescriptor y_Mod_isRegister.desc).map (fun d => d.parameters.length) = some 1 := by decide +kernel
abbrev b_Mod_loadX : ByteArray := prog_7_method_4_code
def y_Mod_loadX : MethodName := ⟨R_Mod, "loadX", "(I)V"⟩
theorem kd_Mod_loadX : y_Mod_loadX.cls ≠ "java/lang/invoke/MethodHandle" ∧ y_Mod_loadX.cls ≠ "java/lang/invoke/VarHandle" ∧ (parseMethodDescriptor y_Mod_loadX.desc).map (fun d => d.parameters.length) = some 1 := by decide +kernel
abbrev b_Mod_clearZ : ByteArray := prog_7_method_6_code
def y_Mod_clearZ : MethodName := ⟨R_Mod, "clearZ", "()V"⟩
theorem kd_Mod_clearZ : y_Mod_clearZ.cls ≠ "java/lang/invoke/MethodHandle" ∧ y_Mod_clearZ.cls ≠ "java/lang/invoke/VarHandle" ∧ (parseMethodDescriptor y_Mod_clearZ.desc).map (fun d => d.parameters.length) = some 0 := by decide +kernel
abbrev b_Mod_put : ByteArray := prog_7_method_7_code
def y_Mod_put : MethodName := ⟨R_Mod, "put", "(I[II)Z"⟩
theorem kd_Mod_put : y_Mod_put.cls ≠ "java/lang/invoke/MethodHandle" ∧ y_Mod_put.cls ≠ "java/lang/invoke/VarHandle" ∧ (parseMethodDescriptor y_Mod_put.desc).map (fun d => d.parameters.length) = some 3 := by decide +kernel
abbrev b_Mod_trim : ByteArray := prog_7_method_3_code
def y_Mod_trim : MethodName := ⟨R_Mod, "trim", "([II)I"⟩
theorem kd_Mod_trim : y_Mod_trim.cls ≠ "java/lang/invoke/MethodHandle" ∧ y_Mod_trim.cls ≠ "java/lang/invoke/VarHandle" ∧ (parseMethodDescriptor y_Mod_trim.desc).map (fun d => d.parameters.length) = some 2 := by decide +kernel
abbrev b_Mod_spread : ByteArray := prog_7_method_13_code
def y_Mod_spread : MethodName := ⟨R_Mod, "spread", "(IJI)Z"⟩
theorem kd_Mod_spread : y_Mod_spread.cls ≠ "java/lang/invoke/MethodHandle" ∧ y_Mod_spread.cls ≠ "java/lang/invoke/VarHandle" ∧ (parseMethodDescriptor y_Mod_spread.desc).map (fun d => d.parameters.length) = some 3 := by decide +kernel
abbrev b_Mod_copy : ByteArray := prog_7_method_14_code
def y_Mod_copy : MethodName := ⟨R_Mod, "copy", "(II)Z"⟩
theorem kd_Mod_copy : y_Mod_copy.cls ≠ "java/lang/invoke/MethodHandle" ∧ y_Mod_copy.cls ≠ "java/lang/invoke/VarHandle" ∧ (parseMethodDescriptor y_Mod_copy.desc).map (fun d => d.parameters.length) = some 2 := by decide +kernel
abbrev b_Mod_add : ByteArray := prog_7_method_15_code
def y_Mod_add : MethodName := ⟨R_Mod, "add", "(III)Z"⟩
theorem kd_Mod_add : y_Mod_add.cls ≠ "java/lang/invoke/MethodHandle" ∧ y_Mod_add.cls ≠ "java/lang/invoke/VarHandle" ∧ (parseMethodDescriptor y_Mod_add.desc).map (fun d => d.parameters.length) = some 3 := by decide +kernel
abbrev b_Mod_loadY : ByteArray := prog_7_method_5_code
def y_Mod_loadY : MethodName := ⟨R_Mod, "loadY", "(I)V"⟩
theorem kd_Mod_loadY : y_Mod_loadY.cls ≠ "java/lang/invoke/MethodHandle" ∧ y_Mod_loadY.cls ≠ "java/lang/invoke/VarHandle" ∧ (parseMethodDescriptor y_Mod_loadY.desc).map (fun d => d.parameters.length) = some 1 := by decide +kernel
abbrev b_Mod_take : ByteArray := prog_7_method_16_code
def y_Mod_take : MethodName := ⟨R_Mod, "take", "(III)Z"⟩
theorem kd_Mod_take : y_Mod_take.cls ≠ "java/lang/invoke/MethodHandle" ∧ y_Mod_take.cls ≠ "java/lang/invoke/VarHandle" ∧ (parseMethodDescriptor y_Mod_take.desc).map (fun d => d.parameters.length) = some 3 := by decide +kernel
abbrev b_Mod_compareRows : ByteArray := prog_7_method_8_code
def y_Mod_compareRows : MethodName := ⟨R_Mod, "compareRows", "([II[II)I"⟩
theorem kd_Mod_compareRows : y_Mod_compareRows.cls ≠ "java/lang/invoke/MethodHandle" ∧ y_Mod_compareRows.cls ≠ "java/lang/invoke/VarHandle" ∧ (parseMethodDescriptor y_Mod_compareRows.desc).map (fun d => d.parameters.length) = some 4 := by decide +kernel
abbrev b_Mod_lessen : ByteArray := prog_7_method_9_code
def y_Mod_lessen : MethodName := ⟨R_Mod, "lessen", "([II[II)I"⟩
theorem kd_Mod_lessen : y_Mod_lessen.cls ≠ "java/lang/invoke/MethodHandle" ∧ y_Mod_lessen.cls ≠ "java/lang/invoke/VarHandle" ∧ (parseMethodDescriptor y_Mod_lessen.desc).map (fun d => d.parameters.length) = some 4 := by decide +kernel
abbrev b_Mod_times : ByteArray := prog_7_method_17_code
def y_Mod_times : MethodName := ⟨R_Mod, "times", "(III)Z"⟩
theorem kd_Mod_times : y_Mod_times.cls ≠ "java/lang/invoke/MethodHandle" ∧ y_Mod_times.cls ≠ "java/lang/invoke/VarHandle" ∧ (parseMethodDescriptor y_Mod_times.desc).map (fun d => d.parameters.length) = some 3 := by decide +kernel
abbrev b_Mod_divide : ByteArray := prog_7_method_18_code
def y_Mod_divide : MethodName := ⟨R_Mod, "divide", "(IIII)Z"⟩
theorem kd_Mod_divide : y_Mod_divide.cls ≠ "java/lang/invoke/MethodHandle" ∧ y_Mod_divide.cls ≠ "java/lang/invoke/VarHandle" ∧ (parseMethodDescriptor y_Mod_divide.desc).map (fun d => d.parameters.length) = some 4 := by decide +kernel
abbrev b_Mod_bitOf : ByteArray := prog_7_method_11_code
def y_Mod_bitOf : MethodName := ⟨R_Mod, "bitOf", "([II)I"⟩
theorem kd_Mod_bitOf : y_Mod_bitOf.cls ≠ "java/lang/invoke/MethodHandle" ∧ y_Mod_bitOf.cls ≠ "java/lang/invoke/VarHandle" ∧ (parseMethodDescriptor y_Mod_bitOf.desc).map (fun d => d.parameters.length) = some 2 := by decide +kernel
abbrev b_Mod_twice : ByteArray := prog_7_method_10_code
def y_Mod_twice : MethodName := ⟨R_Mod, "twice", "([III)I"⟩
theorem kd_Mod_twice : y_Mod_twice.cls ≠ "java/lang/invoke/MethodHandle" ∧ y_Mod_twice.cls ≠ "java/lang/invoke/VarHandle" ∧ (parseMethodDescriptor y_Mod_twice.desc).map (fun d => d.parameters.length) = some 3 := by decide +kernel
abbrev b_Mod_root : ByteArray := prog_7_method_19_code
def y_Mod_root : MethodName := ⟨R_Mod, "root", "(III)Z"⟩
theorem kd_Mod_root : y_Mod_root.cls ≠ "java/lang/invoke/MethodHandle" ∧ y_Mod_root.cls ≠ "java/lang/invoke/VarHandle" ∧ (parseMethodDescriptor y_Mod_root.desc).map (fun d => d.parameters.length) = some 3 := by decide +kernel
abbrev b_Mod_halve : ByteArray := prog_7_method_20_code
def y_Mod_halve : MethodName := ⟨R_Mod, "halve", "()V"⟩
theorem kd_Mod_halve : y_Mod_halve.cls ≠ "java/lang/invoke/MethodHandle" ∧ y_Mod_halve.cls ≠ "java/lang/invoke/VarHandle" ∧ (parseMethodDescriptor y_Mod_halve.desc).map (fun d => d.parameters.length) = some 0 := by decide +kernel
abbrev b_Mod_shift : ByteArray := prog_7_method_23_code
def y_Mod_shift : MethodName := ⟨R_Mod, "shift", "(III)Z"⟩
theorem kd_Mod_shift : y_Mod_shift.cls ≠ "java/lang/invoke/MethodHandle" ∧ y_Mod_shift.cls ≠ "java/lang/invoke/VarHandle" ∧ (parseMethodDescriptor y_Mod_shift.desc).map (fun d => d.parameters.length) = some 3 := by decide +kernel
abbrev b_Mod_moved : ByteArray := prog_7_method_22_code
def y_Mod_moved : MethodName := ⟨R_Mod, "moved", "(IIJJJ)Z"⟩
theorem kd_Mod_moved : y_Mod_moved.cls ≠ "java/lang/invoke/MethodHandle" ∧ y_Mod_moved.cls ≠ "java/lang/invoke/VarHandle" ∧ (parseMethodDescriptor y_Mod_moved.desc).map (fun d => d.parameters.length) = some 5 := by decide +kernel
abbrev b_Mod_bitsOf : ByteArray := prog_7_method_21_code
def y_Mod_bitsOf : MethodName := ⟨R_Mod, "bitsOf", "(I)I"⟩
theorem kd_Mod_bitsOf : y_Mod_bitsOf.cls ≠ "java/lang/invoke/MethodHandle" ∧ y_Mod_bitsOf.cls ≠ "java/lang/invoke/VarHandle" ∧ (parseMethodDescriptor y_Mod_bitsOf.desc).map (fun d => d.parameters.length) = some 1 := by decide +kernel
abbrev b_Mod_part : ByteArray := prog_7_method_24_code
def y_Mod_part : MethodName := ⟨R_Mod, "part", "(IIII)Z"⟩
theorem kd_Mod_part : y_Mod_part.cls ≠ "java/lang/invoke/MethodHandle" ∧ y_Mod_part.cls ≠ "java/lang/invoke/VarHandle" ∧ (parseMethodDescriptor y_Mod_part.desc).map (fun d => d.parameters.length) = some 4 := by decide +kernel
abbrev b_Mod_compare : ByteArray := prog_7_method_25_code
def y_Mod_compare : MethodName := ⟨R_Mod, "compare", "(II)I"⟩
theorem kd_Mod_compare : y_Mod_compare.cls ≠ "java/lang/invoke/MethodHandle" ∧ y_Mod_compare.cls ≠ "java/lang/invoke/VarHandle" ∧ (parseMethodDescriptor y_Mod_compare.desc).map (fun d => d.parameters.length) = some 2 := by decide +kernel
abbrev b_Mod_bits : ByteArray := prog_7_method_26_code
def y_Mod_bits : MethodName := ⟨R_Mod, "bits", "(I)I"⟩
theorem kd_Mod_bits : y_Mod_bits.cls ≠ "java/lang/invoke/MethodHandle" ∧ y_Mod_bits.cls ≠ "java/lang/invoke/VarHandle" ∧ (parseMethodDescriptor y_Mod_bits.desc).map (fun d => d.parameters.length) = some 1 := by decide +kernel
abbrev b_Mod_word : ByteArray := prog_7_method_27_code
def y_Mod_word : MethodName := ⟨R_Mod, "word", "(II)I"⟩
theorem kd_Mod_word : y_Mod_word.cls ≠ "java/lang/invoke/MethodHandle" ∧ y_Mod_word.cls ≠ "java/lang/invoke/VarHandle" ∧ (parseMethodDescriptor y_Mod_word.desc).map (fun d => d.parameters.length) = some 2 := by decide +kernel
abbrev b_Mod_ones : ByteArray := prog_7_method_28_code
def y_Mod_ones : MethodName := ⟨R_Mod, "ones", "(I)I"⟩
theorem kd_Mod_ones : y_Mod_ones.cls ≠ "java/lang/invoke/MethodHandle" ∧ y_Mod_ones.cls ≠ "java/lang/invoke/VarHandle" ∧ (parseMethodDescriptor y_Mod_ones.desc).map (fun d => d.parameters.length) = some 1 := by decide +kernel
abbrev b_Mod_lowest : ByteArray := prog_7_method_29_code
def y_Mod_lowest : MethodName := ⟨R_Mod, "lowest", "(I)I"⟩
theorem kd_Mod_lowest : y_Mod_lowest.cls ≠ "java/lang/invoke/MethodHandle" ∧ y_Mod_lowest.cls ≠ "java/lang/invoke/VarHandle" ∧ (parseMethodDescriptor y_Mod_lowest.desc).map (fun d => d.parameters.length) = some 1 := by decide +kernel
abbrev b_Mod_rest : ByteArray := prog_7_method_30_code
def y_Mod_rest : MethodName := ⟨R_Mod, "rest", "(II)I"⟩
theorem kd_Mod_rest : y_Mod_rest.cls ≠ "java/lang/invoke/MethodHandle" ∧ y_Mod_rest.cls ≠ "java/lang/invoke/VarHandle" ∧ (parseMethodDescriptor y_Mod_rest.desc).map (fun d => d.parameters.length) = some 2 := by decide +kernel
