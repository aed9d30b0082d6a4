abbrev hhL_write : List (Nat × Nat × Nat × Nat) := [(0, 6, 9, 13), (0, 6, 12, 15)]
abbrev hhL_read : List (Nat × Nat × Nat × Nat) := [(0, 9, 12, 13), (0, 9, 15, 15)]
abbrev hhL_tick : List (Nat × Nat × Nat × Nat) := [(0, 9, 12, 13)]
abbrev hhL_acknowledge : List (Nat × Nat × Nat × Nat) := [(0, 8, 11, 15)]
def tkWL : List Cond := [.initialized "TickLinesLaw", .classLink "TickLinesLaw" 8 "TickLines", .methodLink "TickLinesLaw" 28 yT_init, .methodLink "TickLinesLaw" 45 yT_line, .methodLink "TickLinesLaw" 50 yT_gate, .methodLink "TickLinesLaw" 62 yT_chosen, .methodLink "TickLinesLaw" 66 yT_about, .methodLink "TickLinesLaw" 71 yT_counter, .methodLink "TickLinesLaw" 32 yL_write, .static yL_write, .classLink "TickLinesLaw" 13 "java/lang/IllegalArgumentException", .classLink "TickLinesLaw" 15 "java/lang/IllegalStateException", .methodLink "TickLinesLaw" 7 yT_write, .methodLink "TickLinesLaw" 41 yL_read, .static yL_read, .methodLink "TickLinesLaw" 17 yT_read, .methodLink "TickLinesLaw" 55 yL_tick, .static yL_tick, .methodLink "TickLinesLaw" 21 yT_tick, .methodLink "TickLinesLaw" 58 yL_acknowledge, .static yL_acknowledge, .methodLink "TickLinesLaw" 24 yT_acknowledge, .classLink "TickLinesLaw" 29 "TickLinesModel", .methodLink "TickLinesLaw" 31 yM_init, .methodLink "TickLinesLaw" 38 yM_thrown, .methodLink "TickLinesLaw" 37 yM_write, .methodLink "TickLinesLaw" 44 yM_read, .methodLink "TickLinesLaw" 49 yM_line, .methodLink "TickLinesLaw" 54 yM_gate, .methodLink "TickLinesLaw" 57 yM_tick, .methodLink "TickLinesLaw" 61 yM_acknowledge, .methodLink "TickLinesLaw" 65 yM_chosen, .methodLink "TickLinesLaw" 70 yM_about, .methodLink "TickLinesLaw" 74 yM_counter, .arrayClass .long, .codeWith yL_write cL_write 4 (some .int) [(0, 6, 9, 13), (0, 6, 12, 15)], .codeWith yL_read cL_read 4 (some .int) [(0, 9, 12, 13), (0, 9, 15, 15)], .codeWith yL_tick cL_tick 4 (some .int) [(0, 9, 12, 13)], .codeWith yL_acknowledge cL_acknowledge 3 (some .int) [(0, 8, 11, 15)]]
theorem wZ_L : Cond.initialized "TickLinesLaw" ∈ tkWL := List.mem_of_getElem? (i := 0) rfl
theorem wL_L_8 : Cond.classLink "TickLinesLaw" 8 "TickLines" ∈ tkWL := List.mem_of_getElem? (i := 1) rfl
theorem wM_L_28 : Cond.methodLink "TickLinesLaw" 28 yT_init ∈ tkWL := List.mem_of_getElem? (i := 2) rfl
theorem wM_L_45 : Cond.methodLink "TickLinesLaw" 45 yT_line ∈ tkWL := List.mem_of_getElem? (i := 3) rfl
theorem wM_L_50 : Cond.methodLink "TickLinesLaw" 50 yT_gate ∈ tkWL := List.mem_of_getElem? (i := 4) rfl
theorem wM_L_62 : Cond.methodLink "TickLinesLaw" 62 yT_chosen ∈ tkWL := List.mem_of_getElem? (i := 5) rfl
theorem wM_L_66 : Cond.methodLink "TickLinesLaw" 66 yT_about ∈ tkWL := List.mem_of_getElem? (i := 6) rfl
theorem wM_L_71 : Cond.methodLink "TickLinesLaw" 71 yT_counter ∈ tkWL := List.mem_of_getElem? (i := 7) rfl
theorem wM_L_32 : Cond.methodLink "TickLinesLaw" 32 yL_write ∈ tkWL := List.mem_of_getElem? (i := 8) rfl
theorem wT_L_write : Cond.static yL_write ∈ tkWL := List.mem_of_getElem? (i := 9) rfl
theorem wL_L_13 : Cond.classLink "TickLinesLaw" 13 "java/lang/IllegalArgumentException" ∈ tkWL := List.mem_of_getElem? (i := 10) rfl
theorem wL_L_15 : Cond.classLink "TickLinesLaw" 15 "java/lang/IllegalStateException" ∈ tkWL := List.mem_of_getElem? (i := 11) rfl
theorem wM_L_7 : Cond.methodLink "TickLinesLaw" 7 yT_write ∈ tkWL := List.mem_of_getElem? (i := 12) rfl
theorem wM_L_41 : Cond.methodLink "TickLinesLaw" 41 yL_read ∈ tkWL := List.mem_of_getElem? (i := 13) rfl
theorem wT_L_read : Cond.static yL_read ∈ tkWL := List.mem_of_getElem? (i := 14) rfl
theorem wM_L_17 : Cond.methodLink "TickLinesLaw" 17 yT_read ∈ tkWL := List.mem_of_getElem? (i := 15) rfl
theorem wM_L_55 : Cond.methodLink "TickLinesLaw" 55 yL_tick ∈ tkWL := List.mem_of_getElem? (i := 16) rfl
theorem wT_L_tick : Cond.static yL_tick ∈ tkWL := List.mem_of_getElem? (i := 17) rfl
theorem wM_L_21 : Cond.methodLink "TickLinesLaw" 21 yT_tick ∈ tkWL := List.mem_of_getElem? (i := 18) rfl
theorem wM_L_58 : Cond.methodLink "TickLinesLaw" 58 yL_acknowledge ∈ tkWL := List.mem_of_getElem? (i := 19) rfl
theorem wT_L_acknowledge : Cond.static yL_acknowledge ∈ tkWL := List.mem_of_getElem? (i := 20) rfl
theorem wM_L_24 : Cond.methodLink "TickLinesLaw" 24 yT_acknowledge ∈ tkWL := List.mem_of_getElem? (i := 21) rfl
theorem wL_L_29 : Cond.classLink "TickLinesLaw" 29 "TickLinesModel" ∈ tkWL := List.mem_of_getElem? (i := 22) rfl
theorem wM_L_31 : Cond.methodLink "TickLinesLaw" 31 yM_init ∈ tkWL := List.mem_of_getElem? (i := 23) rfl
theorem wM_L_38 : Cond.methodLink "TickLinesLaw" 38 yM_thrown ∈ tkWL := List.mem_of_getElem? (i := 24) rfl
theorem wM_L_37 : Cond.methodLink "TickLinesLaw" 37 yM_write ∈ tkWL := List.mem_of_getElem? (i := 25) rfl
theorem wM_L_44 : Cond.methodLink "TickLinesLaw" 44 yM_read ∈ tkWL := List.mem_of_getElem? (i := 26) rfl
theorem wM_L_49 : Cond.methodLink "TickLinesLaw" 49 yM_line ∈ tkWL := List.mem_of_getElem? (i := 27) rfl
theorem wM_L_54 : Cond.methodLink "TickLinesLaw" 54 yM_gate ∈ tkWL := List.mem_of_getElem? (i := 28) rfl
theorem wM_L_57 : Cond.methodLink "TickLinesLaw" 57 yM_tick ∈ tkWL := List.mem_of_getElem? (i := 29) rfl
theorem wM_L_61 : Cond.methodLink "TickLinesLaw" 61 yM_acknowledge ∈ tkWL := List.mem_of_getElem? (i := 30) rfl
theorem wM_L_65 : Cond.methodLink "TickLinesLaw" 65 yM_chosen ∈ tkWL := List.mem_of_getElem? (i := 31) rfl
theorem wM_L_70 : Cond.methodLink "TickLinesLaw" 70 yM_about ∈ tkWL := List.mem_of_getElem? (i := 32) rfl
theorem wM_L_74 : Cond.methodLink "TickLinesLaw" 74 yM_counter ∈ tkWL := List.mem_of_getElem? (i := 33) rfl
theorem wA_long : Cond.arrayClass .long ∈ tkWL := List.mem_of_getElem? (i := 34) rfl
theorem wC_L_write : Cond.codeWith yL_write cL_write 4 (some .int) [(0, 6, 9, 13), (0, 6, 12, 15)] ∈ tkWL := List.mem_of_getElem? (i := 35) rfl
theorem wC_L_read : Cond.codeWith yL_read cL_read 4 (some .int) [(0, 9, 12, 13), (0, 9, 15, 15)] ∈ tkWL := List.mem_of_getElem? (i := 36) rfl
theorem wC_L_tick : Cond.codeWith yL_tick cL_tick 4 (some .int) [(0, 9, 12, 13)] ∈ tkWL := List.mem_of_getElem? (i := 37) rfl
theorem wC_L_acknowledge : Cond.codeWith yL_acknowledge cL_acknowledge 3 (some .int) [(0, 8, 11, 15)] ∈ tkWL := List.mem_of_getElem? (i := 38) rfl
theorem tkWL_good : ∀ w ∈ tkWL, goodWord w = true := by decide +kernel
/-- the words of the law's own helpers -/
def tkWH : List Cond := tkWL ++ tkW
theorem tkWH_good : ∀ w ∈ tkWH, goodWord w = true := fun w h => (List.mem_append.mp h).elim (tkWL_good w) (tkW_good w)
theorem tkWH_l : ∀ w ∈ tkWL, w ∈ tkWH := fun w h => List.mem_append_left _ h
theorem tkWH_k : ∀ w ∈ tkW, w ∈ tkWH := fun w h => List.mem_append_right _ h
