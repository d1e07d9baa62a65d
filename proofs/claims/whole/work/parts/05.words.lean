/-! WORDS: those that the walks use, by their places -/
def zt : List Cond := wsL_law.filter goodWord
theorem zt_of {w : Cond} (h : w ∈ wsL_law) (hg : goodWord w = true) : w ∈ zt := List.mem_filter.mpr ⟨h, hg⟩
theorem zt_in : ∀ w ∈ zt, w ∈ lw_tbl := fun w h => wsL_law_in w (List.mem_filter.mp h).1
theorem zt_x0 : ∀ w ∈ u_ws RX0 TX0 15, w ∈ zt := fun w h => zt_of (inlX0 w h) (List.all_eq_true.mp (by decide +kernel : wsX00.all goodWord = true) w h)
theorem zt_x1 : ∀ w ∈ u_ws RX1 TX1 19, w ∈ zt := fun w h => zt_of (inlX1 w h) (List.all_eq_true.mp (by decide +kernel : wsX10.all goodWord = true) w h)
set_option maxRecDepth 20000 in
theorem fl_X0_18 : Cond.fieldLink RX0 18 (TX0 0).1 (TX0 0).2.1 (TX0 0).2.2.1 ∈ zt := zt_of (List.mem_of_getElem? (i := 24) (by rfl)) (by decide +kernel)
set_option maxRecDepth 20000 in
theorem fl_X0_22 : Cond.fieldLink RX0 22 (TX0 1).1 (TX0 1).2.1 (TX0 1).2.2.1 ∈ zt := zt_of (List.mem_of_getElem? (i := 25) (by rfl)) (by decide +kernel)
set_option maxRecDepth 20000 in
theorem fl_X0_25 : Cond.fieldLink RX0 25 (TX0 2).1 (TX0 2).2.1 (TX0 2).2.2.1 ∈ zt := zt_of (List.mem_of_getElem? (i := 27) (by rfl)) (by decide +kernel)
set_option maxRecDepth 20000 in
theorem fl_X0_29 : Cond.fieldLink RX0 29 (TX0 3).1 (TX0 3).2.1 (TX0 3).2.2.1 ∈ zt := zt_of (List.mem_of_getElem? (i := 28) (by rfl)) (by decide +kernel)
set_option maxRecDepth 20000 in
theorem fl_X0_32 : Cond.fieldLink RX0 32 (TX0 4).1 (TX0 4).2.1 (TX0 4).2.2.1 ∈ zt := zt_of (List.mem_of_getElem? (i := 29) (by rfl)) (by decide +kernel)
set_option maxRecDepth 20000 in
theorem fl_X0_35 : Cond.fieldLink RX0 35 (TX0 5).1 (TX0 5).2.1 (TX0 5).2.2.1 ∈ zt := zt_of (List.mem_of_getElem? (i := 30) (by rfl)) (by decide +kernel)
set_option maxRecDepth 20000 in
theorem fl_X0_38 : Cond.fieldLink RX0 38 (TX0 6).1 (TX0 6).2.1 (TX0 6).2.2.1 ∈ zt := zt_of (List.mem_of_getElem? (i := 31) (by rfl)) (by decide +kernel)
set_option maxRecDepth 20000 in
theorem fl_X0_41 : Cond.fieldLink RX0 41 (TX0 14).1 (TX0 14).2.1 (TX0 14).2.2.1 ∈ zt := zt_of (List.mem_of_getElem? (i := 32) (by rfl)) (by decide +kernel)
set_option maxRecDepth 20000 in
theorem fl_X1_7 : Cond.fieldLink RX1 7 (TX1 15).1 (TX1 15).2.1 (TX1 15).2.2.1 ∈ zt := zt_of (List.mem_of_getElem? (i := 37) (by rfl)) (by decide +kernel)
set_option maxRecDepth 20000 in
theorem fl_X1_13 : Cond.fieldLink RX1 13 (TX1 16).1 (TX1 16).2.1 (TX1 16).2.2.1 ∈ zt := zt_of (List.mem_of_getElem? (i := 38) (by rfl)) (by decide +kernel)
set_option maxRecDepth 20000 in
theorem fl_X1_16 : Cond.fieldLink RX1 16 (TX1 17).1 (TX1 17).2.1 (TX1 17).2.2.1 ∈ zt := zt_of (List.mem_of_getElem? (i := 39) (by rfl)) (by decide +kernel)
set_option maxRecDepth 20000 in
theorem fl_X1_19 : Cond.fieldLink RX1 19 (TX1 18).1 (TX1 18).2.1 (TX1 18).2.2.1 ∈ zt := zt_of (List.mem_of_getElem? (i := 41) (by rfl)) (by decide +kernel)
set_option maxRecDepth 20000 in
theorem fl_X1_23 : Cond.fieldLink RX1 23 (TX1 1).1 (TX1 1).2.1 (TX1 1).2.2.1 ∈ zt := zt_of (List.mem_of_getElem? (i := 42) (by rfl)) (by decide +kernel)
set_option maxRecDepth 20000 in
theorem fl_X1_27 : Cond.fieldLink RX1 27 (TX1 2).1 (TX1 2).2.1 (TX1 2).2.2.1 ∈ zt := zt_of (List.mem_of_getElem? (i := 43) (by rfl)) (by decide +kernel)
set_option maxRecDepth 20000 in
theorem fl_X0_44 : Cond.fieldLink RX0 44 (TX0 7).1 (TX0 7).2.1 (TX0 7).2.2.1 ∈ zt := zt_of (List.mem_of_getElem? (i := 48) (by rfl)) (by decide +kernel)
set_option maxRecDepth 20000 in
theorem fl_X0_47 : Cond.fieldLink RX0 47 (TX0 8).1 (TX0 8).2.1 (TX0 8).2.2.1 ∈ zt := zt_of (List.mem_of_getElem? (i := 49) (by rfl)) (by decide +kernel)
set_option maxRecDepth 20000 in
theorem fl_X0_50 : Cond.fieldLink RX0 50 (TX0 9).1 (TX0 9).2.1 (TX0 9).2.2.1 ∈ zt := zt_of (List.mem_of_getElem? (i := 50) (by rfl)) (by decide +kernel)
set_option maxRecDepth 20000 in
theorem fl_X0_54 : Cond.fieldLink RX0 54 (TX0 10).1 (TX0 10).2.1 (TX0 10).2.2.1 ∈ zt := zt_of (List.mem_of_getElem? (i := 51) (by rfl)) (by decide +kernel)
set_option maxRecDepth 20000 in
theorem fl_X0_57 : Cond.fieldLink RX0 57 (TX0 11).1 (TX0 11).2.1 (TX0 11).2.2.1 ∈ zt := zt_of (List.mem_of_getElem? (i := 52) (by rfl)) (by decide +kernel)
set_option maxRecDepth 20000 in
theorem fl_X0_87 : Cond.fieldLink RX0 87 (TX0 12).1 (TX0 12).2.1 (TX0 12).2.2.1 ∈ zt := zt_of (List.mem_of_getElem? (i := 57) (by rfl)) (by decide +kernel)
set_option maxRecDepth 20000 in
theorem fl_X0_93 : Cond.fieldLink RX0 93 (TX0 13).1 (TX0 13).2.1 (TX0 13).2.2.1 ∈ zt := zt_of (List.mem_of_getElem? (i := 58) (by rfl)) (by decide +kernel)
set_option maxRecDepth 20000 in
theorem fl_X1_30 : Cond.fieldLink RX1 30 (TX1 0).1 (TX1 0).2.1 (TX1 0).2.2.1 ∈ zt := zt_of (List.mem_of_getElem? (i := 66) (by rfl)) (by decide +kernel)
set_option maxRecDepth 20000 in
theorem fl_X1_33 : Cond.fieldLink RX1 33 (TX1 3).1 (TX1 3).2.1 (TX1 3).2.2.1 ∈ zt := zt_of (List.mem_of_getElem? (i := 67) (by rfl)) (by decide +kernel)
set_option maxRecDepth 20000 in
theorem fl_X1_36 : Cond.fieldLink RX1 36 (TX1 4).1 (TX1 4).2.1 (TX1 4).2.2.1 ∈ zt := zt_of (List.mem_of_getElem? (i := 68) (by rfl)) (by decide +kernel)
set_option maxRecDepth 20000 in
theorem fl_X1_39 : Cond.fieldLink RX1 39 (TX1 5).1 (TX1 5).2.1 (TX1 5).2.2.1 ∈ zt := zt_of (List.mem_of_getElem? (i := 69) (by rfl)) (by decide +kernel)
set_option maxRecDepth 20000 in
theorem fl_X1_42 : Cond.fieldLink RX1 42 (TX1 6).1 (TX1 6).2.1 (TX1 6).2.2.1 ∈ zt := zt_of (List.mem_of_getElem? (i := 70) (by rfl)) (by decide +kernel)
set_option maxRecDepth 20000 in
theorem fl_X1_46 : Cond.fieldLink RX1 46 (TX1 7).1 (TX1 7).2.1 (TX1 7).2.2.1 ∈ zt := zt_of (List.mem_of_getElem? (i := 71) (by rfl)) (by decide +kernel)
set_option maxRecDepth 20000 in
theorem fl_X1_49 : Cond.fieldLink RX1 49 (TX1 8).1 (TX1 8).2.1 (TX1 8).2.2.1 ∈ zt := zt_of (List.mem_of_getElem? (i := 72) (by rfl)) (by decide +kernel)
set_option maxRecDepth 20000 in
theorem fl_X1_56 : Cond.fieldLink RX1 56 (TX1 9).1 (TX1 9).2.1 (TX1 9).2.2.1 ∈ zt := zt_of (List.mem_of_getElem? (i := 166) (by rfl)) (by decide +kernel)
set_option maxRecDepth 20000 in
theorem fl_X1_59 : Cond.fieldLink RX1 59 (TX1 10).1 (TX1 10).2.1 (TX1 10).2.2.1 ∈ zt := zt_of (List.mem_of_getElem? (i := 167) (by rfl)) (by decide +kernel)
set_option maxRecDepth 20000 in
theorem fl_X1_62 : Cond.fieldLink RX1 62 (TX1 11).1 (TX1 11).2.1 (TX1 11).2.2.1 ∈ zt := zt_of (List.mem_of_getElem? (i := 180) (by rfl)) (by decide +kernel)
set_option maxRecDepth 20000 in
theorem fl_X1_65 : Cond.fieldLink RX1 65 (TX1 12).1 (TX1 12).2.1 (TX1 12).2.2.1 ∈ zt := zt_of (List.mem_of_getElem? (i := 181) (by rfl)) (by decide +kernel)
set_option maxRecDepth 20000 in
theorem fl_X1_68 : Cond.fieldLink RX1 68 (TX1 13).1 (TX1 13).2.1 (TX1 13).2.2.1 ∈ zt := zt_of (List.mem_of_getElem? (i := 182) (by rfl)) (by decide +kernel)
set_option maxRecDepth 20000 in
theorem fl_X1_71 : Cond.fieldLink RX1 71 (TX1 14).1 (TX1 14).2.1 (TX1 14).2.2.1 ∈ zt := zt_of (List.mem_of_getElem? (i := 183) (by rfl)) (by decide +kernel)
theorem zt_code {y : MethodName} {b : ByteArray} {k : Nat} {r : Option FieldType} (h : Cond.code y b k r ∈ zt) : GoodIn zt (Cond.code y b k r :: zt) := by
  intro w hw
  rcases List.mem_cons.mp hw with e | hw
  · subst e
    exact ⟨h, good_of_word (List.mem_filter.mp h).2⟩
  · exact ⟨hw, good_of_word (List.mem_filter.mp hw).2⟩
/-- what a call of an instance method, of a static one, wants of the tables -/
def zv (own : String) (idx : Nat) (y : MethodName) (b : ByteArray) (k : Nat) (r : Option FieldType) (n : Nat) : Prop :=
  Cond.code y b k r ∈ zt ∧ Cond.methodLink own idx y ∈ zt ∧ Cond.initialized y.cls ∈ zt ∧ (y.cls ≠ "java/lang/invoke/MethodHandle" ∧ y.cls ≠ "java/lang/invoke/VarHandle" ∧ (parseMethodDescriptor y.desc).map (fun d => d.parameters.length) = some n) ∧ Cond.instanceMethod y ∈ zt ∧ Cond.selects y.cls y y ∈ zt
def zn (own : String) (idx : Nat) (y : MethodName) (b : ByteArray) (k : Nat) (r : Option FieldType) (n : Nat) : Prop :=
  Cond.code y b k r ∈ zt ∧ Cond.methodLink own idx y ∈ zt ∧ Cond.initialized y.cls ∈ zt ∧ (y.cls ≠ "java/lang/invoke/MethodHandle" ∧ y.cls ≠ "java/lang/invoke/VarHandle" ∧ (parseMethodDescriptor y.desc).map (fun d => d.parameters.length) = some n) ∧ Cond.instanceMethod y ∈ zt
def zs (own : String) (idx : Nat) (y : MethodName) (b : ByteArray) (k : Nat) (r : Option FieldType) (n : Nat) : Prop :=
  Cond.code y b k r ∈ zt ∧ Cond.methodLink own idx y ∈ zt ∧ Cond.initialized y.cls ∈ zt ∧ (y.cls ≠ "java/lang/invoke/MethodHandle" ∧ y.cls ≠ "java/lang/invoke/VarHandle" ∧ (parseMethodDescriptor y.desc).map (fun d => d.parameters.length) = some n) ∧ Cond.static y ∈ zt

set_option maxRecDepth 20000 in
theorem zs_L_L_cell : zs RL 22 yL_cell cL_cell 2 (some .int) 2 := ⟨zt_of (List.mem_of_getElem? (i := 10) (by rfl)) (by decide +kernel), zt_of (List.mem_of_getElem? (i := 7) (by rfl)) (by decide +kernel), zt_of (List.mem_of_getElem? (i := 9) (by rfl)) (by decide +kernel), ⟨by decide +kernel, by decide +kernel, by decide +kernel⟩, zt_of (List.mem_of_getElem? (i := 8) (by rfl)) (by decide +kernel)⟩
set_option maxRecDepth 20000 in
theorem zi_L_X0_init : zn RL 28 yX0_init cX0_init 5 none 2 := ⟨zt_of (List.mem_of_getElem? (i := 13) (by rfl)) (by decide +kernel), zt_of (List.mem_of_getElem? (i := 11) (by rfl)) (by decide +kernel), zt_of (List.mem_of_getElem? (i := 2) (by rfl)) (by decide +kernel), ⟨by decide +kernel, by decide +kernel, by decide +kernel⟩, zt_of (List.mem_of_getElem? (i := 12) (by rfl)) (by decide +kernel)⟩
set_option maxRecDepth 20000 in
theorem zi_L_X1_init : zn RL 33 yX1_init cX1_init 5 none 2 := ⟨zt_of (List.mem_of_getElem? (i := 35) (by rfl)) (by decide +kernel), zt_of (List.mem_of_getElem? (i := 33) (by rfl)) (by decide +kernel), zt_of (List.mem_of_getElem? (i := 5) (by rfl)) (by decide +kernel), ⟨by decide +kernel, by decide +kernel, by decide +kernel⟩, zt_of (List.mem_of_getElem? (i := 34) (by rfl)) (by decide +kernel)⟩
set_option maxRecDepth 20000 in
theorem zv_L_X0_reset : zv RL 34 yX0_reset cX0_reset 1 none 0 := ⟨zt_of (List.mem_of_getElem? (i := 47) (by rfl)) (by decide +kernel), zt_of (List.mem_of_getElem? (i := 44) (by rfl)) (by decide +kernel), zt_of (List.mem_of_getElem? (i := 2) (by rfl)) (by decide +kernel), ⟨by decide +kernel, by decide +kernel, by decide +kernel⟩, zt_of (List.mem_of_getElem? (i := 45) (by rfl)) (by decide +kernel), zt_of (List.mem_of_getElem? (i := 46) (by rfl)) (by decide +kernel)⟩
set_option maxRecDepth 20000 in
theorem zv_X0_X0_clearCurrent : zv RX0 60 yX0_clearCurrent cX0_clearCurrent 2 none 0 := ⟨zt_of (List.mem_of_getElem? (i := 56) (by rfl)) (by decide +kernel), zt_of (List.mem_of_getElem? (i := 53) (by rfl)) (by decide +kernel), zt_of (List.mem_of_getElem? (i := 2) (by rfl)) (by decide +kernel), ⟨by decide +kernel, by decide +kernel, by decide +kernel⟩, zt_of (List.mem_of_getElem? (i := 54) (by rfl)) (by decide +kernel), zt_of (List.mem_of_getElem? (i := 55) (by rfl)) (by decide +kernel)⟩
set_option maxRecDepth 20000 in
theorem zs_X0_X0_put : zs RX0 113 yX0_put cX0_put 3 none 3 := ⟨zt_of (List.mem_of_getElem? (i := 61) (by rfl)) (by decide +kernel), zt_of (List.mem_of_getElem? (i := 59) (by rfl)) (by decide +kernel), zt_of (List.mem_of_getElem? (i := 2) (by rfl)) (by decide +kernel), ⟨by decide +kernel, by decide +kernel, by decide +kernel⟩, zt_of (List.mem_of_getElem? (i := 60) (by rfl)) (by decide +kernel)⟩
set_option maxRecDepth 20000 in
theorem zv_L_X1_reset : zv RL 37 yX1_reset cX1_reset 1 none 0 := ⟨zt_of (List.mem_of_getElem? (i := 65) (by rfl)) (by decide +kernel), zt_of (List.mem_of_getElem? (i := 62) (by rfl)) (by decide +kernel), zt_of (List.mem_of_getElem? (i := 5) (by rfl)) (by decide +kernel), ⟨by decide +kernel, by decide +kernel, by decide +kernel⟩, zt_of (List.mem_of_getElem? (i := 63) (by rfl)) (by decide +kernel), zt_of (List.mem_of_getElem? (i := 64) (by rfl)) (by decide +kernel)⟩
set_option maxRecDepth 20000 in
theorem zv_L_X0_feed : zv RL 38 yX0_feed cX0_feed 3 (some .int) 2 := ⟨zt_of (List.mem_of_getElem? (i := 76) (by rfl)) (by decide +kernel), zt_of (List.mem_of_getElem? (i := 73) (by rfl)) (by decide +kernel), zt_of (List.mem_of_getElem? (i := 2) (by rfl)) (by decide +kernel), ⟨by decide +kernel, by decide +kernel, by decide +kernel⟩, zt_of (List.mem_of_getElem? (i := 74) (by rfl)) (by decide +kernel), zt_of (List.mem_of_getElem? (i := 75) (by rfl)) (by decide +kernel)⟩
set_option maxRecDepth 20000 in
theorem zv_X0_X0_append : zv RX0 63 yX0_append cX0_append 3 none 2 := ⟨zt_of (List.mem_of_getElem? (i := 80) (by rfl)) (by decide +kernel), zt_of (List.mem_of_getElem? (i := 77) (by rfl)) (by decide +kernel), zt_of (List.mem_of_getElem? (i := 2) (by rfl)) (by decide +kernel), ⟨by decide +kernel, by decide +kernel, by decide +kernel⟩, zt_of (List.mem_of_getElem? (i := 78) (by rfl)) (by decide +kernel), zt_of (List.mem_of_getElem? (i := 79) (by rfl)) (by decide +kernel)⟩
set_option maxRecDepth 20000 in
theorem zv_X0_X0_spilledPairs : zv RX0 109 yX0_spilledPairs cX0_spilledPairs 1 (some .int) 0 := ⟨zt_of (List.mem_of_getElem? (i := 84) (by rfl)) (by decide +kernel), zt_of (List.mem_of_getElem? (i := 81) (by rfl)) (by decide +kernel), zt_of (List.mem_of_getElem? (i := 2) (by rfl)) (by decide +kernel), ⟨by decide +kernel, by decide +kernel, by decide +kernel⟩, zt_of (List.mem_of_getElem? (i := 82) (by rfl)) (by decide +kernel), zt_of (List.mem_of_getElem? (i := 83) (by rfl)) (by decide +kernel)⟩
set_option maxRecDepth 20000 in
theorem zv_X0_X0_sortWorkArea : zv RX0 74 yX0_sortWorkArea cX0_sortWorkArea 3 none 0 := ⟨zt_of (List.mem_of_getElem? (i := 88) (by rfl)) (by decide +kernel), zt_of (List.mem_of_getElem? (i := 85) (by rfl)) (by decide +kernel), zt_of (List.mem_of_getElem? (i := 2) (by rfl)) (by decide +kernel), ⟨by decide +kernel, by decide +kernel, by decide +kernel⟩, zt_of (List.mem_of_getElem? (i := 86) (by rfl)) (by decide +kernel), zt_of (List.mem_of_getElem? (i := 87) (by rfl)) (by decide +kernel)⟩
set_option maxRecDepth 20000 in
theorem zv_X0_X0_insertRow : zv RX0 117 yX0_insertRow cX0_insertRow 6 none 2 := ⟨zt_of (List.mem_of_getElem? (i := 92) (by rfl)) (by decide +kernel), zt_of (List.mem_of_getElem? (i := 89) (by rfl)) (by decide +kernel), zt_of (List.mem_of_getElem? (i := 2) (by rfl)) (by decide +kernel), ⟨by decide +kernel, by decide +kernel, by decide +kernel⟩, zt_of (List.mem_of_getElem? (i := 90) (by rfl)) (by decide +kernel), zt_of (List.mem_of_getElem? (i := 91) (by rfl)) (by decide +kernel)⟩
set_option maxRecDepth 20000 in
theorem zs_X0_X0_at : zs RX0 105 yX0_at cX0_at 2 (some .int) 2 := ⟨zt_of (List.mem_of_getElem? (i := 95) (by rfl)) (by decide +kernel), zt_of (List.mem_of_getElem? (i := 93) (by rfl)) (by decide +kernel), zt_of (List.mem_of_getElem? (i := 2) (by rfl)) (by decide +kernel), ⟨by decide +kernel, by decide +kernel, by decide +kernel⟩, zt_of (List.mem_of_getElem? (i := 94) (by rfl)) (by decide +kernel)⟩
set_option maxRecDepth 20000 in
theorem zv_X0_X0_keyOfRow : zv RX0 83 yX0_keyOfRow cX0_keyOfRow 2 (some .int) 1 := ⟨zt_of (List.mem_of_getElem? (i := 99) (by rfl)) (by decide +kernel), zt_of (List.mem_of_getElem? (i := 96) (by rfl)) (by decide +kernel), zt_of (List.mem_of_getElem? (i := 2) (by rfl)) (by decide +kernel), ⟨by decide +kernel, by decide +kernel, by decide +kernel⟩, zt_of (List.mem_of_getElem? (i := 97) (by rfl)) (by decide +kernel), zt_of (List.mem_of_getElem? (i := 98) (by rfl)) (by decide +kernel)⟩
set_option maxRecDepth 20000 in
theorem zv_L_X1_feed : zv RL 42 yX1_feed cX1_feed 3 (some .int) 2 := ⟨zt_of (List.mem_of_getElem? (i := 103) (by rfl)) (by decide +kernel), zt_of (List.mem_of_getElem? (i := 100) (by rfl)) (by decide +kernel), zt_of (List.mem_of_getElem? (i := 5) (by rfl)) (by decide +kernel), ⟨by decide +kernel, by decide +kernel, by decide +kernel⟩, zt_of (List.mem_of_getElem? (i := 101) (by rfl)) (by decide +kernel), zt_of (List.mem_of_getElem? (i := 102) (by rfl)) (by decide +kernel)⟩
set_option maxRecDepth 20000 in
theorem zv_X1_X1_take : zv RX1 52 yX1_take cX1_take 3 none 2 := ⟨zt_of (List.mem_of_getElem? (i := 107) (by rfl)) (by decide +kernel), zt_of (List.mem_of_getElem? (i := 104) (by rfl)) (by decide +kernel), zt_of (List.mem_of_getElem? (i := 5) (by rfl)) (by decide +kernel), ⟨by decide +kernel, by decide +kernel, by decide +kernel⟩, zt_of (List.mem_of_getElem? (i := 105) (by rfl)) (by decide +kernel), zt_of (List.mem_of_getElem? (i := 106) (by rfl)) (by decide +kernel)⟩
set_option maxRecDepth 20000 in
theorem zv_L_X0_feedMany : zv RL 7 yX0_feedMany cX0_feedMany 7 (some .int) 4 := ⟨zt_of (List.mem_of_getElem? (i := 115) (by rfl)) (by decide +kernel), zt_of (List.mem_of_getElem? (i := 112) (by rfl)) (by decide +kernel), zt_of (List.mem_of_getElem? (i := 2) (by rfl)) (by decide +kernel), ⟨by decide +kernel, by decide +kernel, by decide +kernel⟩, zt_of (List.mem_of_getElem? (i := 113) (by rfl)) (by decide +kernel), zt_of (List.mem_of_getElem? (i := 114) (by rfl)) (by decide +kernel)⟩
set_option maxRecDepth 20000 in
theorem zv_L_X1_feedMany : zv RL 46 yX1_feedMany cX1_feedMany 6 (some .int) 4 := ⟨zt_of (List.mem_of_getElem? (i := 121) (by rfl)) (by decide +kernel), zt_of (List.mem_of_getElem? (i := 118) (by rfl)) (by decide +kernel), zt_of (List.mem_of_getElem? (i := 5) (by rfl)) (by decide +kernel), ⟨by decide +kernel, by decide +kernel, by decide +kernel⟩, zt_of (List.mem_of_getElem? (i := 119) (by rfl)) (by decide +kernel), zt_of (List.mem_of_getElem? (i := 120) (by rfl)) (by decide +kernel)⟩
set_option maxRecDepth 20000 in
theorem zv_L_X1_thrown : zv RL 47 yX1_thrown cX1_thrown 1 (some .int) 0 := ⟨zt_of (List.mem_of_getElem? (i := 125) (by rfl)) (by decide +kernel), zt_of (List.mem_of_getElem? (i := 122) (by rfl)) (by decide +kernel), zt_of (List.mem_of_getElem? (i := 5) (by rfl)) (by decide +kernel), ⟨by decide +kernel, by decide +kernel, by decide +kernel⟩, zt_of (List.mem_of_getElem? (i := 123) (by rfl)) (by decide +kernel), zt_of (List.mem_of_getElem? (i := 124) (by rfl)) (by decide +kernel)⟩
set_option maxRecDepth 20000 in
theorem zv_L_X0_seal : zv RL 51 yX0_seal cX0_seal 1 (some .int) 0 := ⟨zt_of (List.mem_of_getElem? (i := 129) (by rfl)) (by decide +kernel), zt_of (List.mem_of_getElem? (i := 126) (by rfl)) (by decide +kernel), zt_of (List.mem_of_getElem? (i := 2) (by rfl)) (by decide +kernel), ⟨by decide +kernel, by decide +kernel, by decide +kernel⟩, zt_of (List.mem_of_getElem? (i := 127) (by rfl)) (by decide +kernel), zt_of (List.mem_of_getElem? (i := 128) (by rfl)) (by decide +kernel)⟩
set_option maxRecDepth 20000 in
theorem zv_X0_X0_countRowsOfRuns : zv RX0 77 yX0_countRowsOfRuns cX0_countRowsOfRuns 2 none 0 := ⟨zt_of (List.mem_of_getElem? (i := 133) (by rfl)) (by decide +kernel), zt_of (List.mem_of_getElem? (i := 130) (by rfl)) (by decide +kernel), zt_of (List.mem_of_getElem? (i := 2) (by rfl)) (by decide +kernel), ⟨by decide +kernel, by decide +kernel, by decide +kernel⟩, zt_of (List.mem_of_getElem? (i := 131) (by rfl)) (by decide +kernel), zt_of (List.mem_of_getElem? (i := 132) (by rfl)) (by decide +kernel)⟩
set_option maxRecDepth 20000 in
theorem zv_X0_X0_mergeRuns : zv RX0 80 yX0_mergeRuns cX0_mergeRuns 3 none 0 := ⟨zt_of (List.mem_of_getElem? (i := 137) (by rfl)) (by decide +kernel), zt_of (List.mem_of_getElem? (i := 134) (by rfl)) (by decide +kernel), zt_of (List.mem_of_getElem? (i := 2) (by rfl)) (by decide +kernel), ⟨by decide +kernel, by decide +kernel, by decide +kernel⟩, zt_of (List.mem_of_getElem? (i := 135) (by rfl)) (by decide +kernel), zt_of (List.mem_of_getElem? (i := 136) (by rfl)) (by decide +kernel)⟩
set_option maxRecDepth 20000 in
theorem zv_X0_X0_mergeNeighbours : zv RX0 120 yX0_mergeNeighbours cX0_mergeNeighbours 3 none 1 := ⟨zt_of (List.mem_of_getElem? (i := 141) (by rfl)) (by decide +kernel), zt_of (List.mem_of_getElem? (i := 138) (by rfl)) (by decide +kernel), zt_of (List.mem_of_getElem? (i := 2) (by rfl)) (by decide +kernel), ⟨by decide +kernel, by decide +kernel, by decide +kernel⟩, zt_of (List.mem_of_getElem? (i := 139) (by rfl)) (by decide +kernel), zt_of (List.mem_of_getElem? (i := 140) (by rfl)) (by decide +kernel)⟩
set_option maxRecDepth 20000 in
theorem zv_X0_X0_mergeStretches : zv RX0 123 yX0_mergeStretches cX0_mergeStretches 7 none 3 := ⟨zt_of (List.mem_of_getElem? (i := 145) (by rfl)) (by decide +kernel), zt_of (List.mem_of_getElem? (i := 142) (by rfl)) (by decide +kernel), zt_of (List.mem_of_getElem? (i := 2) (by rfl)) (by decide +kernel), ⟨by decide +kernel, by decide +kernel, by decide +kernel⟩, zt_of (List.mem_of_getElem? (i := 143) (by rfl)) (by decide +kernel), zt_of (List.mem_of_getElem? (i := 144) (by rfl)) (by decide +kernel)⟩
set_option maxRecDepth 20000 in
theorem zv_L_X1_seal : zv RL 54 yX1_seal cX1_seal 3 (some .int) 0 := ⟨zt_of (List.mem_of_getElem? (i := 149) (by rfl)) (by decide +kernel), zt_of (List.mem_of_getElem? (i := 146) (by rfl)) (by decide +kernel), zt_of (List.mem_of_getElem? (i := 5) (by rfl)) (by decide +kernel), ⟨by decide +kernel, by decide +kernel, by decide +kernel⟩, zt_of (List.mem_of_getElem? (i := 147) (by rfl)) (by decide +kernel), zt_of (List.mem_of_getElem? (i := 148) (by rfl)) (by decide +kernel)⟩
set_option maxRecDepth 20000 in
theorem zv_L_X0_nextRow : zv RL 55 yX0_nextRow cX0_nextRow 1 (some .int) 0 := ⟨zt_of (List.mem_of_getElem? (i := 153) (by rfl)) (by decide +kernel), zt_of (List.mem_of_getElem? (i := 150) (by rfl)) (by decide +kernel), zt_of (List.mem_of_getElem? (i := 2) (by rfl)) (by decide +kernel), ⟨by decide +kernel, by decide +kernel, by decide +kernel⟩, zt_of (List.mem_of_getElem? (i := 151) (by rfl)) (by decide +kernel), zt_of (List.mem_of_getElem? (i := 152) (by rfl)) (by decide +kernel)⟩
set_option maxRecDepth 20000 in
theorem zv_X0_X0_valueOfRow : zv RX0 90 yX0_valueOfRow cX0_valueOfRow 2 (some .int) 1 := ⟨zt_of (List.mem_of_getElem? (i := 157) (by rfl)) (by decide +kernel), zt_of (List.mem_of_getElem? (i := 154) (by rfl)) (by decide +kernel), zt_of (List.mem_of_getElem? (i := 2) (by rfl)) (by decide +kernel), ⟨by decide +kernel, by decide +kernel, by decide +kernel⟩, zt_of (List.mem_of_getElem? (i := 155) (by rfl)) (by decide +kernel), zt_of (List.mem_of_getElem? (i := 156) (by rfl)) (by decide +kernel)⟩
set_option maxRecDepth 20000 in
theorem zv_X0_X0_takeFromRun : zv RX0 96 yX0_takeFromRun cX0_takeFromRun 4 none 1 := ⟨zt_of (List.mem_of_getElem? (i := 161) (by rfl)) (by decide +kernel), zt_of (List.mem_of_getElem? (i := 158) (by rfl)) (by decide +kernel), zt_of (List.mem_of_getElem? (i := 2) (by rfl)) (by decide +kernel), ⟨by decide +kernel, by decide +kernel, by decide +kernel⟩, zt_of (List.mem_of_getElem? (i := 159) (by rfl)) (by decide +kernel), zt_of (List.mem_of_getElem? (i := 160) (by rfl)) (by decide +kernel)⟩
set_option maxRecDepth 20000 in
theorem zv_L_X1_nextRow : zv RL 58 yX1_nextRow cX1_nextRow 1 (some .int) 0 := ⟨zt_of (List.mem_of_getElem? (i := 165) (by rfl)) (by decide +kernel), zt_of (List.mem_of_getElem? (i := 162) (by rfl)) (by decide +kernel), zt_of (List.mem_of_getElem? (i := 5) (by rfl)) (by decide +kernel), ⟨by decide +kernel, by decide +kernel, by decide +kernel⟩, zt_of (List.mem_of_getElem? (i := 163) (by rfl)) (by decide +kernel), zt_of (List.mem_of_getElem? (i := 164) (by rfl)) (by decide +kernel)⟩
set_option maxRecDepth 20000 in
theorem zv_L_X0_nextGroup : zv RL 59 yX0_nextGroup cX0_nextGroup 1 (some .int) 0 := ⟨zt_of (List.mem_of_getElem? (i := 171) (by rfl)) (by decide +kernel), zt_of (List.mem_of_getElem? (i := 168) (by rfl)) (by decide +kernel), zt_of (List.mem_of_getElem? (i := 2) (by rfl)) (by decide +kernel), ⟨by decide +kernel, by decide +kernel, by decide +kernel⟩, zt_of (List.mem_of_getElem? (i := 169) (by rfl)) (by decide +kernel), zt_of (List.mem_of_getElem? (i := 170) (by rfl)) (by decide +kernel)⟩
set_option maxRecDepth 20000 in
theorem zv_X0_X0_addToGroup : zv RX0 100 yX0_addToGroup cX0_addToGroup 3 none 1 := ⟨zt_of (List.mem_of_getElem? (i := 175) (by rfl)) (by decide +kernel), zt_of (List.mem_of_getElem? (i := 172) (by rfl)) (by decide +kernel), zt_of (List.mem_of_getElem? (i := 2) (by rfl)) (by decide +kernel), ⟨by decide +kernel, by decide +kernel, by decide +kernel⟩, zt_of (List.mem_of_getElem? (i := 173) (by rfl)) (by decide +kernel), zt_of (List.mem_of_getElem? (i := 174) (by rfl)) (by decide +kernel)⟩
set_option maxRecDepth 20000 in
theorem zv_L_X1_nextGroup : zv RL 62 yX1_nextGroup cX1_nextGroup 2 (some .int) 0 := ⟨zt_of (List.mem_of_getElem? (i := 179) (by rfl)) (by decide +kernel), zt_of (List.mem_of_getElem? (i := 176) (by rfl)) (by decide +kernel), zt_of (List.mem_of_getElem? (i := 5) (by rfl)) (by decide +kernel), ⟨by decide +kernel, by decide +kernel, by decide +kernel⟩, zt_of (List.mem_of_getElem? (i := 177) (by rfl)) (by decide +kernel), zt_of (List.mem_of_getElem? (i := 178) (by rfl)) (by decide +kernel)⟩
set_option maxRecDepth 20000 in
theorem zv_L_X0_skipTo : zv RL 63 yX0_skipTo cX0_skipTo 3 (some .int) 1 := ⟨zt_of (List.mem_of_getElem? (i := 187) (by rfl)) (by decide +kernel), zt_of (List.mem_of_getElem? (i := 184) (by rfl)) (by decide +kernel), zt_of (List.mem_of_getElem? (i := 2) (by rfl)) (by decide +kernel), ⟨by decide +kernel, by decide +kernel, by decide +kernel⟩, zt_of (List.mem_of_getElem? (i := 185) (by rfl)) (by decide +kernel), zt_of (List.mem_of_getElem? (i := 186) (by rfl)) (by decide +kernel)⟩
set_option maxRecDepth 20000 in
theorem zv_L_X1_skipTo : zv RL 66 yX1_skipTo cX1_skipTo 3 (some .int) 1 := ⟨zt_of (List.mem_of_getElem? (i := 191) (by rfl)) (by decide +kernel), zt_of (List.mem_of_getElem? (i := 188) (by rfl)) (by decide +kernel), zt_of (List.mem_of_getElem? (i := 5) (by rfl)) (by decide +kernel), ⟨by decide +kernel, by decide +kernel, by decide +kernel⟩, zt_of (List.mem_of_getElem? (i := 189) (by rfl)) (by decide +kernel), zt_of (List.mem_of_getElem? (i := 190) (by rfl)) (by decide +kernel)⟩
set_option maxRecDepth 20000 in
theorem zv_L_X0_key : zv RL 67 yX0_key cX0_key 1 (some .int) 0 := ⟨zt_of (List.mem_of_getElem? (i := 195) (by rfl)) (by decide +kernel), zt_of (List.mem_of_getElem? (i := 192) (by rfl)) (by decide +kernel), zt_of (List.mem_of_getElem? (i := 2) (by rfl)) (by decide +kernel), ⟨by decide +kernel, by decide +kernel, by decide +kernel⟩, zt_of (List.mem_of_getElem? (i := 193) (by rfl)) (by decide +kernel), zt_of (List.mem_of_getElem? (i := 194) (by rfl)) (by decide +kernel)⟩
set_option maxRecDepth 20000 in
theorem zv_L_X1_key : zv RL 70 yX1_key cX1_key 1 (some .int) 0 := ⟨zt_of (List.mem_of_getElem? (i := 199) (by rfl)) (by decide +kernel), zt_of (List.mem_of_getElem? (i := 196) (by rfl)) (by decide +kernel), zt_of (List.mem_of_getElem? (i := 5) (by rfl)) (by decide +kernel), ⟨by decide +kernel, by decide +kernel, by decide +kernel⟩, zt_of (List.mem_of_getElem? (i := 197) (by rfl)) (by decide +kernel), zt_of (List.mem_of_getElem? (i := 198) (by rfl)) (by decide +kernel)⟩
set_option maxRecDepth 20000 in
theorem zv_L_X0_value : zv RL 71 yX0_value cX0_value 1 (some .int) 0 := ⟨zt_of (List.mem_of_getElem? (i := 203) (by rfl)) (by decide +kernel), zt_of (List.mem_of_getElem? (i := 200) (by rfl)) (by decide +kernel), zt_of (List.mem_of_getElem? (i := 2) (by rfl)) (by decide +kernel), ⟨by decide +kernel, by decide +kernel, by decide +kernel⟩, zt_of (List.mem_of_getElem? (i := 201) (by rfl)) (by decide +kernel), zt_of (List.mem_of_getElem? (i := 202) (by rfl)) (by decide +kernel)⟩
set_option maxRecDepth 20000 in
theorem zv_L_X1_value : zv RL 74 yX1_value cX1_value 1 (some .int) 0 := ⟨zt_of (List.mem_of_getElem? (i := 207) (by rfl)) (by decide +kernel), zt_of (List.mem_of_getElem? (i := 204) (by rfl)) (by decide +kernel), zt_of (List.mem_of_getElem? (i := 5) (by rfl)) (by decide +kernel), ⟨by decide +kernel, by decide +kernel, by decide +kernel⟩, zt_of (List.mem_of_getElem? (i := 205) (by rfl)) (by decide +kernel), zt_of (List.mem_of_getElem? (i := 206) (by rfl)) (by decide +kernel)⟩
set_option maxRecDepth 20000 in
theorem zv_L_X0_group : zv RL 15 yX0_group cX0_group 2 (some .int) 1 := ⟨zt_of (List.mem_of_getElem? (i := 214) (by rfl)) (by decide +kernel), zt_of (List.mem_of_getElem? (i := 211) (by rfl)) (by decide +kernel), zt_of (List.mem_of_getElem? (i := 2) (by rfl)) (by decide +kernel), ⟨by decide +kernel, by decide +kernel, by decide +kernel⟩, zt_of (List.mem_of_getElem? (i := 212) (by rfl)) (by decide +kernel), zt_of (List.mem_of_getElem? (i := 213) (by rfl)) (by decide +kernel)⟩
set_option maxRecDepth 20000 in
theorem zv_L_X1_group : zv RL 78 yX1_group cX1_group 2 (some .int) 1 := ⟨zt_of (List.mem_of_getElem? (i := 218) (by rfl)) (by decide +kernel), zt_of (List.mem_of_getElem? (i := 215) (by rfl)) (by decide +kernel), zt_of (List.mem_of_getElem? (i := 5) (by rfl)) (by decide +kernel), ⟨by decide +kernel, by decide +kernel, by decide +kernel⟩, zt_of (List.mem_of_getElem? (i := 216) (by rfl)) (by decide +kernel), zt_of (List.mem_of_getElem? (i := 217) (by rfl)) (by decide +kernel)⟩
set_option maxRecDepth 20000 in
theorem zv_L_X0_count : zv RL 19 yX0_count cX0_count 2 (some .int) 1 := ⟨zt_of (List.mem_of_getElem? (i := 225) (by rfl)) (by decide +kernel), zt_of (List.mem_of_getElem? (i := 222) (by rfl)) (by decide +kernel), zt_of (List.mem_of_getElem? (i := 2) (by rfl)) (by decide +kernel), ⟨by decide +kernel, by decide +kernel, by decide +kernel⟩, zt_of (List.mem_of_getElem? (i := 223) (by rfl)) (by decide +kernel), zt_of (List.mem_of_getElem? (i := 224) (by rfl)) (by decide +kernel)⟩
set_option maxRecDepth 20000 in
theorem zv_L_X1_count : zv RL 81 yX1_count cX1_count 2 (some .int) 1 := ⟨zt_of (List.mem_of_getElem? (i := 229) (by rfl)) (by decide +kernel), zt_of (List.mem_of_getElem? (i := 226) (by rfl)) (by decide +kernel), zt_of (List.mem_of_getElem? (i := 5) (by rfl)) (by decide +kernel), ⟨by decide +kernel, by decide +kernel, by decide +kernel⟩, zt_of (List.mem_of_getElem? (i := 227) (by rfl)) (by decide +kernel), zt_of (List.mem_of_getElem? (i := 228) (by rfl)) (by decide +kernel)⟩
set_option maxRecDepth 20000 in
theorem zv_X1_X1_runsLeft : zv RX1 74 yX1_runsLeft cX1_runsLeft 4 (some .int) 0 := ⟨zt_of (List.mem_of_getElem? (i := 233) (by rfl)) (by decide +kernel), zt_of (List.mem_of_getElem? (i := 230) (by rfl)) (by decide +kernel), zt_of (List.mem_of_getElem? (i := 5) (by rfl)) (by decide +kernel), ⟨by decide +kernel, by decide +kernel, by decide +kernel⟩, zt_of (List.mem_of_getElem? (i := 231) (by rfl)) (by decide +kernel), zt_of (List.mem_of_getElem? (i := 232) (by rfl)) (by decide +kernel)⟩
set_option maxRecDepth 20000 in
theorem zm_min : Cond.methodLink RX0 9 Lib.Math.min.name ∈ zt ∧ Cond.static Lib.Math.min.name ∈ zt ∧ Cond.initialized "java/lang/Math" ∈ zt ∧ Cond.code Lib.Math.min.name Lib.Math.min.code 2 (some .int) ∈ zt := ⟨zt_of (List.mem_of_getElem? (i := 17) (by rfl)) (by decide +kernel), zt_of (List.mem_of_getElem? (i := 18) (by rfl)) (by decide +kernel), zt_of (List.mem_of_getElem? (i := 19) (by rfl)) (by decide +kernel), zt_of (List.mem_of_getElem? (i := 20) (by rfl)) (by decide +kernel)⟩
set_option maxRecDepth 20000 in
theorem zm_max : Cond.methodLink RX0 15 Lib.Math.max.name ∈ zt ∧ Cond.static Lib.Math.max.name ∈ zt ∧ Cond.initialized "java/lang/Math" ∈ zt ∧ Cond.code Lib.Math.max.name Lib.Math.max.code 2 (some .int) ∈ zt := ⟨zt_of (List.mem_of_getElem? (i := 21) (by rfl)) (by decide +kernel), zt_of (List.mem_of_getElem? (i := 22) (by rfl)) (by decide +kernel), zt_of (List.mem_of_getElem? (i := 19) (by rfl)) (by decide +kernel), zt_of (List.mem_of_getElem? (i := 23) (by rfl)) (by decide +kernel)⟩
