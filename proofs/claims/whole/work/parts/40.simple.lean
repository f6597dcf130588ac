/-! THE CLASS (7): its simple methods -/
def layL : List (Nat × Nat × Nat) := [(0, 0, 1), (0, 1, 3), (0, 2, 4), (0, 3, 19), (0, 4, 20), (0, 5, 25), (0, 6, 30), (0, 7, 35), (0, 8, 42), (1, 0, 2), (4, 0, 5), (4, 1, 9), (4, 2, 10), (4, 3, 11), (4, 4, 12), (4, 5, 13), (5, 0, 6), (5, 1, 7), (5, 2, 8), (14, 0, 15), (14, 1, 16), (14, 2, 17), (14, 3, 18), (19, 0, 74), (19, 1, 76), (19, 2, 78), (19, 3, 80), (19, 4, 82), (19, 5, 84), (19, 6, 86), (19, 7, 88), (19, 8, 90), (19, 9, 92), (19, 10, 94), (19, 11, 96), (19, 12, 98), (19, 13, 100), (19, 14, 102), (19, 15, 104), (19, 16, 106), (19, 17, 108), (19, 18, 110), (19, 19, 112), (19, 20, 114), (19, 21, 116), (19, 22, 118), (19, 23, 120), (19, 24, 122), (19, 25, 124), (19, 26, 126), (19, 27, 128), (19, 28, 130), (19, 29, 132), (20, 0, 21), (20, 1, 22), (20, 2, 23), (20, 3, 24), (25, 0, 26), (25, 1, 27), (25, 2, 28), (25, 3, 29), (30, 0, 31), (30, 1, 32), (30, 2, 33), (30, 3, 34), (35, 0, 36), (35, 1, 37), (35, 2, 38), (35, 3, 39), (35, 4, 40), (35, 5, 41), (42, 0, 43), (42, 1, 45), (42, 4, 47), (42, 5, 49), (42, 6, 54), (43, 0, 44), (45, 0, 46), (47, 0, 48), (49, 0, 50), (49, 1, 51), (49, 2, 52), (49, 3, 53), (54, 0, 55), (54, 1, 56), (54, 2, 57), (54, 3, 58), (59, 0, 60), (59, 1, 61), (59, 2, 62), (59, 3, 63), (64, 0, 65), (64, 1, 66), (64, 2, 67), (64, 3, 68), (69, 0, 70), (69, 1, 71), (69, 2, 72), (69, 3, 73), (74, 0, 75), (76, 0, 77), (78, 0, 79), (80, 0, 81), (82, 0, 83), (84, 0, 85), (86, 0, 87), (88, 0, 89), (90, 0, 91), (92, 0, 93), (94, 0, 95), (96, 0, 97), (98, 0, 99), (100, 0, 101), (102, 0, 103), (104, 0, 105), (106, 0, 107), (108, 0, 109), (110, 0, 111), (112, 0, 113), (114, 0, 115), (116, 0, 117), (118, 0, 119), (120, 0, 121), (122, 0, 123), (124, 0, 125), (126, 0, 127), (128, 0, 129), (130, 0, 131), (132, 0, 133)]
def LayC (R : Nat → Nat → Option Nat) : Prop := ∀ q ∈ layL, R q.1 q.2.1 = some q.2.2
def isSh (s : Int32) : Int32 := if s < 0 then 0 else if 3 ≤ s then 0 else 1
def isIn (n k : Int32) : Int32 := if k < 0 then 0 else if n ≤ k then 0 else 1
def isCe (k : Int32) : Int32 := if k < 0 then 0 else if 40 ≤ k then 0 else 1
def isLe (k : Int32) : Int32 := if k < 97 then 0 else if 122 < k then 0 else 1
def isDi (k : Int32) : Int32 := if k < 48 then 0 else if 57 < k then 0 else 1
theorem sh_in {s : Int32} (h : ¬ isSh s = 0) : vp_in s 3 := by
  have h0 : ¬ s < 0 := fun z => h (by simp only [isSh, if_pos z])
  have h1 : ¬ 3 ≤ s := fun z => h (by simp only [isSh, if_neg h0, if_pos z])
  exact inOf (n := 3) (by decide) h0 h1
theorem in_in {n : Nat} {k : Int32} (hn : n < 2 ^ 31) (h : ¬ isIn (nI n) k = 0) : vp_in k n := by
  have h0 : ¬ k < 0 := fun z => h (by simp only [isIn, if_pos z])
  have h1 : ¬ nI n ≤ k := fun z => h (by simp only [isIn, if_neg h0, if_pos z])
  exact inOf hn h0 h1
theorem row_in {w : gw} {R : Nat → Nat → Option Nat} (hw : w.1 = 166) (hR : LayC R) {k : Nat} (hk : k < 30) : R 19 k = some (74 + 2 * k) ∧ isRow w R (74 + 2 * k) := by
  have h1 : ∀ k, k < 30 → (19, k, 74 + 2 * k) ∈ layL := by decide +kernel
  have h2 : ∀ k, k < 30 → (74 + 2 * k, 0, 74 + 2 * k + 1) ∈ layL := by decide +kernel
  have h3 : ∀ k, k < 30 → kd (74 + 2 * k) = 3 ∧ kd (74 + 2 * k + 1) = 9 := by decide +kernel
  exact ⟨hR _ (h1 k hk), by rw [hw]; omega, (h3 k hk).1, (h3 k hk).2, hR _ (h2 k hk)⟩
theorem ln_row {k : Nat} (hk : k < 30) : ln (74 + 2 * k + 1) = 24 := by
  have h : ∀ k, k < 30 → ln (74 + 2 * k + 1) = 24 := by decide +kernel
  exact h k hk

theorem row_1 {w : gw} {R : Nat → Nat → Option Nat} (hw : w.1 = 166) (hR : LayC R) : isRow w R 1 := ⟨by rw [hw]; decide, rfl, rfl, hR (1, 0, 2) (by decide)⟩
theorem row_43 {w : gw} {R : Nat → Nat → Option Nat} (hw : w.1 = 166) (hR : LayC R) : isRow w R 43 := ⟨by rw [hw]; decide, rfl, rfl, hR (43, 0, 44) (by decide)⟩
theorem row_45 {w : gw} {R : Nat → Nat → Option Nat} (hw : w.1 = 166) (hR : LayC R) : isRow w R 45 := ⟨by rw [hw]; decide, rfl, rfl, hR (45, 0, 46) (by decide)⟩
theorem row_47 {w : gw} {R : Nat → Nat → Option Nat} (hw : w.1 = 166) (hR : LayC R) : isRow w R 47 := ⟨by rw [hw]; decide, rfl, rfl, hR (47, 0, 48) (by decide)⟩
theorem mach_20 {w : gw} {R : Nat → Nat → Option Nat} (hw : w.1 = 166) (hR : LayC R) : isMach w R 20 := ⟨by rw [hw]; decide, rfl, rfl, rfl, rfl, rfl, rfl, rfl, rfl, rfl, hR (20, 0, 21) (by decide), hR (20, 1, 22) (by decide), hR (20, 2, 23) (by decide), hR (20, 3, 24) (by decide)⟩
theorem mach_25 {w : gw} {R : Nat → Nat → Option Nat} (hw : w.1 = 166) (hR : LayC R) : isMach w R 25 := ⟨by rw [hw]; decide, rfl, rfl, rfl, rfl, rfl, rfl, rfl, rfl, rfl, hR (25, 0, 26) (by decide), hR (25, 1, 27) (by decide), hR (25, 2, 28) (by decide), hR (25, 3, 29) (by decide)⟩
theorem mach_30 {w : gw} {R : Nat → Nat → Option Nat} (hw : w.1 = 166) (hR : LayC R) : isMach w R 30 := ⟨by rw [hw]; decide, rfl, rfl, rfl, rfl, rfl, rfl, rfl, rfl, rfl, hR (30, 0, 31) (by decide), hR (30, 1, 32) (by decide), hR (30, 2, 33) (by decide), hR (30, 3, 34) (by decide)⟩
theorem mach_49 {w : gw} {R : Nat → Nat → Option Nat} (hw : w.1 = 166) (hR : LayC R) : isMach w R 49 := ⟨by rw [hw]; decide, rfl, rfl, rfl, rfl, rfl, rfl, rfl, rfl, rfl, hR (49, 0, 50) (by decide), hR (49, 1, 51) (by decide), hR (49, 2, 52) (by decide), hR (49, 3, 53) (by decide)⟩
theorem mach_54 {w : gw} {R : Nat → Nat → Option Nat} (hw : w.1 = 166) (hR : LayC R) : isMach w R 54 := ⟨by rw [hw]; decide, rfl, rfl, rfl, rfl, rfl, rfl, rfl, rfl, rfl, hR (54, 0, 55) (by decide), hR (54, 1, 56) (by decide), hR (54, 2, 57) (by decide), hR (54, 3, 58) (by decide)⟩
theorem prog_14 {w : gw} {R : Nat → Nat → Option Nat} (hw : w.1 = 166) (hR : LayC R) : isProg w R 14 := ⟨by rw [hw]; decide, rfl, rfl, rfl, rfl, rfl, rfl, rfl, rfl, rfl, hR (14, 0, 15) (by decide), hR (14, 1, 16) (by decide), hR (14, 2, 17) (by decide), hR (14, 3, 18) (by decide)⟩
theorem prog_59 {w : gw} {R : Nat → Nat → Option Nat} (hw : w.1 = 166) (hR : LayC R) : isProg w R 59 := ⟨by rw [hw]; decide, rfl, rfl, rfl, rfl, rfl, rfl, rfl, rfl, rfl, hR (59, 0, 60) (by decide), hR (59, 1, 61) (by decide), hR (59, 2, 62) (by decide), hR (59, 3, 63) (by decide)⟩
theorem prog_64 {w : gw} {R : Nat → Nat → Option Nat} (hw : w.1 = 166) (hR : LayC R) : isProg w R 64 := ⟨by rw [hw]; decide, rfl, rfl, rfl, rfl, rfl, rfl, rfl, rfl, rfl, hR (64, 0, 65) (by decide), hR (64, 1, 66) (by decide), hR (64, 2, 67) (by decide), hR (64, 3, 68) (by decide)⟩
theorem prog_69 {w : gw} {R : Nat → Nat → Option Nat} (hw : w.1 = 166) (hR : LayC R) : isProg w R 69 := ⟨by rw [hw]; decide, rfl, rfl, rfl, rfl, rfl, rfl, rfl, rfl, rfl, hR (69, 0, 70) (by decide), hR (69, 1, 71) (by decide), hR (69, 2, 72) (by decide), hR (69, 3, 73) (by decide)⟩
theorem hdX7_isShelf : yX7_isShelf.cls ≠ "java/lang/invoke/MethodHandle" ∧ yX7_isShelf.cls ≠ "java/lang/invoke/VarHandle" ∧ (parseMethodDescriptor yX7_isShelf.desc).map (fun d => d.parameters.length) = some 1 := by decide +kernel

theorem hdX7_isCell : yX7_isCell.cls ≠ "java/lang/invoke/MethodHandle" ∧ yX7_isCell.cls ≠ "java/lang/invoke/VarHandle" ∧ (parseMethodDescriptor yX7_isCell.desc).map (fun d => d.parameters.length) = some 1 := by decide +kernel

theorem hdX7_isLetter : yX7_isLetter.cls ≠ "java/lang/invoke/MethodHandle" ∧ yX7_isLetter.cls ≠ "java/lang/invoke/VarHandle" ∧ (parseMethodDescriptor yX7_isLetter.desc).map (fun d => d.parameters.length) = some 1 := by decide +kernel

theorem hdX7_isDigit : yX7_isDigit.cls ≠ "java/lang/invoke/MethodHandle" ∧ yX7_isDigit.cls ≠ "java/lang/invoke/VarHandle" ∧ (parseMethodDescriptor yX7_isDigit.desc).map (fun d => d.parameters.length) = some 1 := by decide +kernel

theorem hdX7_withLetter : yX7_withLetter.cls ≠ "java/lang/invoke/MethodHandle" ∧ yX7_withLetter.cls ≠ "java/lang/invoke/VarHandle" ∧ (parseMethodDescriptor yX7_withLetter.desc).map (fun d => d.parameters.length) = some 2 := by decide +kernel

theorem hdX7_feed : yX7_feed.cls = cR 7 ∧ yX7_feed.cls ≠ "java/lang/invoke/MethodHandle" ∧ yX7_feed.cls ≠ "java/lang/invoke/VarHandle" ∧ (parseMethodDescriptor yX7_feed.desc).map (fun d => d.parameters.length) = some 5 := by decide +kernel

theorem hdX7_end : yX7_end.cls = cR 7 ∧ yX7_end.cls ≠ "java/lang/invoke/MethodHandle" ∧ yX7_end.cls ≠ "java/lang/invoke/VarHandle" ∧ (parseMethodDescriptor yX7_end.desc).map (fun d => d.parameters.length) = some 1 := by decide +kernel

theorem hdX7_program : yX7_program.cls = cR 7 ∧ yX7_program.cls ≠ "java/lang/invoke/MethodHandle" ∧ yX7_program.cls ≠ "java/lang/invoke/VarHandle" ∧ (parseMethodDescriptor yX7_program.desc).map (fun d => d.parameters.length) = some 1 := by decide +kernel

theorem hdX7_fault : yX7_fault.cls = cR 7 ∧ yX7_fault.cls ≠ "java/lang/invoke/MethodHandle" ∧ yX7_fault.cls ≠ "java/lang/invoke/VarHandle" ∧ (parseMethodDescriptor yX7_fault.desc).map (fun d => d.parameters.length) = some 1 := by decide +kernel

theorem hdX7_act : yX7_act.cls = cR 7 ∧ yX7_act.cls ≠ "java/lang/invoke/MethodHandle" ∧ yX7_act.cls ≠ "java/lang/invoke/VarHandle" ∧ (parseMethodDescriptor yX7_act.desc).map (fun d => d.parameters.length) = some 3 := by decide +kernel

theorem hdX7_input : yX7_input.cls = cR 7 ∧ yX7_input.cls ≠ "java/lang/invoke/MethodHandle" ∧ yX7_input.cls ≠ "java/lang/invoke/VarHandle" ∧ (parseMethodDescriptor yX7_input.desc).map (fun d => d.parameters.length) = some 0 := by decide +kernel

theorem hdX7_byteOf : yX7_byteOf.cls = cR 7 ∧ yX7_byteOf.cls ≠ "java/lang/invoke/MethodHandle" ∧ yX7_byteOf.cls ≠ "java/lang/invoke/VarHandle" ∧ (parseMethodDescriptor yX7_byteOf.desc).map (fun d => d.parameters.length) = some 2 := by decide +kernel

theorem hdX7_drop : yX7_drop.cls = cR 7 ∧ yX7_drop.cls ≠ "java/lang/invoke/MethodHandle" ∧ yX7_drop.cls ≠ "java/lang/invoke/VarHandle" ∧ (parseMethodDescriptor yX7_drop.desc).map (fun d => d.parameters.length) = some 0 := by decide +kernel

theorem hdX7_run : yX7_run.cls = cR 7 ∧ yX7_run.cls ≠ "java/lang/invoke/MethodHandle" ∧ yX7_run.cls ≠ "java/lang/invoke/VarHandle" ∧ (parseMethodDescriptor yX7_run.desc).map (fun d => d.parameters.length) = some 2 := by decide +kernel

theorem hdX7_ran : yX7_ran.cls = cR 7 ∧ yX7_ran.cls ≠ "java/lang/invoke/MethodHandle" ∧ yX7_ran.cls ≠ "java/lang/invoke/VarHandle" ∧ (parseMethodDescriptor yX7_ran.desc).map (fun d => d.parameters.length) = some 1 := by decide +kernel

theorem hdX7_told : yX7_told.cls = cR 7 ∧ yX7_told.cls ≠ "java/lang/invoke/MethodHandle" ∧ yX7_told.cls ≠ "java/lang/invoke/VarHandle" ∧ (parseMethodDescriptor yX7_told.desc).map (fun d => d.parameters.length) = some 1 := by decide +kernel

theorem hdX7_left : yX7_left.cls = cR 7 ∧ yX7_left.cls ≠ "java/lang/invoke/MethodHandle" ∧ yX7_left.cls ≠ "java/lang/invoke/VarHandle" ∧ (parseMethodDescriptor yX7_left.desc).map (fun d => d.parameters.length) = some 1 := by decide +kernel

theorem hdX7_leftOf : yX7_leftOf.cls = cR 7 ∧ yX7_leftOf.cls ≠ "java/lang/invoke/MethodHandle" ∧ yX7_leftOf.cls ≠ "java/lang/invoke/VarHandle" ∧ (parseMethodDescriptor yX7_leftOf.desc).map (fun d => d.parameters.length) = some 2 := by decide +kernel

theorem hdX7_heaps : yX7_heaps.cls = cR 7 ∧ yX7_heaps.cls ≠ "java/lang/invoke/MethodHandle" ∧ yX7_heaps.cls ≠ "java/lang/invoke/VarHandle" ∧ (parseMethodDescriptor yX7_heaps.desc).map (fun d => d.parameters.length) = some 1 := by decide +kernel

theorem hdX7_heap : yX7_heap.cls = cR 7 ∧ yX7_heap.cls ≠ "java/lang/invoke/MethodHandle" ∧ yX7_heap.cls ≠ "java/lang/invoke/VarHandle" ∧ (parseMethodDescriptor yX7_heap.desc).map (fun d => d.parameters.length) = some 3 := by decide +kernel

theorem hdX7_heapOf : yX7_heapOf.cls = cR 7 ∧ yX7_heapOf.cls ≠ "java/lang/invoke/MethodHandle" ∧ yX7_heapOf.cls ≠ "java/lang/invoke/VarHandle" ∧ (parseMethodDescriptor yX7_heapOf.desc).map (fun d => d.parameters.length) = some 2 := by decide +kernel

theorem hdX7_small : yX7_small.cls = cR 7 ∧ yX7_small.cls ≠ "java/lang/invoke/MethodHandle" ∧ yX7_small.cls ≠ "java/lang/invoke/VarHandle" ∧ (parseMethodDescriptor yX7_small.desc).map (fun d => d.parameters.length) = some 2 := by decide +kernel

theorem hdX7_smallByte : yX7_smallByte.cls = cR 7 ∧ yX7_smallByte.cls ≠ "java/lang/invoke/MethodHandle" ∧ yX7_smallByte.cls ≠ "java/lang/invoke/VarHandle" ∧ (parseMethodDescriptor yX7_smallByte.desc).map (fun d => d.parameters.length) = some 2 := by decide +kernel

theorem hdX7_ruled : yX7_ruled.cls = cR 7 ∧ yX7_ruled.cls ≠ "java/lang/invoke/MethodHandle" ∧ yX7_ruled.cls ≠ "java/lang/invoke/VarHandle" ∧ (parseMethodDescriptor yX7_ruled.desc).map (fun d => d.parameters.length) = some 2 := by decide +kernel

theorem hdX7_nearest : yX7_nearest.cls = cR 7 ∧ yX7_nearest.cls ≠ "java/lang/invoke/MethodHandle" ∧ yX7_nearest.cls ≠ "java/lang/invoke/VarHandle" ∧ (parseMethodDescriptor yX7_nearest.desc).map (fun d => d.parameters.length) = some 2 := by decide +kernel

theorem hdX7_nearestByte : yX7_nearestByte.cls = cR 7 ∧ yX7_nearestByte.cls ≠ "java/lang/invoke/MethodHandle" ∧ yX7_nearestByte.cls ≠ "java/lang/invoke/VarHandle" ∧ (parseMethodDescriptor yX7_nearestByte.desc).map (fun d => d.parameters.length) = some 2 := by decide +kernel

theorem hdX7_held : yX7_held.cls = cR 7 ∧ yX7_held.cls ≠ "java/lang/invoke/MethodHandle" ∧ yX7_held.cls ≠ "java/lang/invoke/VarHandle" ∧ (parseMethodDescriptor yX7_held.desc).map (fun d => d.parameters.length) = some 3 := by decide +kernel

theorem hdX7_heldAll : yX7_heldAll.cls = cR 7 ∧ yX7_heldAll.cls ≠ "java/lang/invoke/MethodHandle" ∧ yX7_heldAll.cls ≠ "java/lang/invoke/VarHandle" ∧ (parseMethodDescriptor yX7_heldAll.desc).map (fun d => d.parameters.length) = some 3 := by decide +kernel

theorem hdX7_about : yX7_about.cls = cR 7 ∧ yX7_about.cls ≠ "java/lang/invoke/MethodHandle" ∧ yX7_about.cls ≠ "java/lang/invoke/VarHandle" ∧ (parseMethodDescriptor yX7_about.desc).map (fun d => d.parameters.length) = some 1 := by decide +kernel

theorem hdX7_addFour : yX7_addFour.cls = cR 7 ∧ yX7_addFour.cls ≠ "java/lang/invoke/MethodHandle" ∧ yX7_addFour.cls ≠ "java/lang/invoke/VarHandle" ∧ (parseMethodDescriptor yX7_addFour.desc).map (fun d => d.parameters.length) = some 1 := by decide +kernel

theorem hdX7_isInput : yX7_isInput.cls = cR 7 ∧ yX7_isInput.cls ≠ "java/lang/invoke/MethodHandle" ∧ yX7_isInput.cls ≠ "java/lang/invoke/VarHandle" ∧ (parseMethodDescriptor yX7_isInput.desc).map (fun d => d.parameters.length) = some 1 := by decide +kernel

theorem hdX7_sortInputs : yX7_sortInputs.cls = cR 7 ∧ yX7_sortInputs.cls ≠ "java/lang/invoke/MethodHandle" ∧ yX7_sortInputs.cls ≠ "java/lang/invoke/VarHandle" ∧ (parseMethodDescriptor yX7_sortInputs.desc).map (fun d => d.parameters.length) = some 1 := by decide +kernel

theorem hdX7_holdOne : yX7_holdOne.cls = cR 7 ∧ yX7_holdOne.cls ≠ "java/lang/invoke/MethodHandle" ∧ yX7_holdOne.cls ≠ "java/lang/invoke/VarHandle" ∧ (parseMethodDescriptor yX7_holdOne.desc).map (fun d => d.parameters.length) = some 3 := by decide +kernel

theorem hdX8_isShelf : yX8_isShelf.cls ≠ "java/lang/invoke/MethodHandle" ∧ yX8_isShelf.cls ≠ "java/lang/invoke/VarHandle" ∧ (parseMethodDescriptor yX8_isShelf.desc).map (fun d => d.parameters.length) = some 1 := by decide +kernel

theorem hdX8_isLetter : yX8_isLetter.cls ≠ "java/lang/invoke/MethodHandle" ∧ yX8_isLetter.cls ≠ "java/lang/invoke/VarHandle" ∧ (parseMethodDescriptor yX8_isLetter.desc).map (fun d => d.parameters.length) = some 1 := by decide +kernel

theorem hdX8_isDigit : yX8_isDigit.cls ≠ "java/lang/invoke/MethodHandle" ∧ yX8_isDigit.cls ≠ "java/lang/invoke/VarHandle" ∧ (parseMethodDescriptor yX8_isDigit.desc).map (fun d => d.parameters.length) = some 1 := by decide +kernel

theorem hdX8_program : yX8_program.cls = cR 8 ∧ yX8_program.cls ≠ "java/lang/invoke/MethodHandle" ∧ yX8_program.cls ≠ "java/lang/invoke/VarHandle" ∧ (parseMethodDescriptor yX8_program.desc).map (fun d => d.parameters.length) = some 1 := by decide +kernel

theorem hdX8_fault : yX8_fault.cls = cR 8 ∧ yX8_fault.cls ≠ "java/lang/invoke/MethodHandle" ∧ yX8_fault.cls ≠ "java/lang/invoke/VarHandle" ∧ (parseMethodDescriptor yX8_fault.desc).map (fun d => d.parameters.length) = some 1 := by decide +kernel

theorem hdX8_act : yX8_act.cls = cR 8 ∧ yX8_act.cls ≠ "java/lang/invoke/MethodHandle" ∧ yX8_act.cls ≠ "java/lang/invoke/VarHandle" ∧ (parseMethodDescriptor yX8_act.desc).map (fun d => d.parameters.length) = some 3 := by decide +kernel

theorem hdX8_input : yX8_input.cls = cR 8 ∧ yX8_input.cls ≠ "java/lang/invoke/MethodHandle" ∧ yX8_input.cls ≠ "java/lang/invoke/VarHandle" ∧ (parseMethodDescriptor yX8_input.desc).map (fun d => d.parameters.length) = some 0 := by decide +kernel

theorem hdX8_isInput : yX8_isInput.cls = cR 8 ∧ yX8_isInput.cls ≠ "java/lang/invoke/MethodHandle" ∧ yX8_isInput.cls ≠ "java/lang/invoke/VarHandle" ∧ (parseMethodDescriptor yX8_isInput.desc).map (fun d => d.parameters.length) = some 1 := by decide +kernel

theorem hdX8_byteOf : yX8_byteOf.cls = cR 8 ∧ yX8_byteOf.cls ≠ "java/lang/invoke/MethodHandle" ∧ yX8_byteOf.cls ≠ "java/lang/invoke/VarHandle" ∧ (parseMethodDescriptor yX8_byteOf.desc).map (fun d => d.parameters.length) = some 2 := by decide +kernel

theorem hdX8_drop : yX8_drop.cls = cR 8 ∧ yX8_drop.cls ≠ "java/lang/invoke/MethodHandle" ∧ yX8_drop.cls ≠ "java/lang/invoke/VarHandle" ∧ (parseMethodDescriptor yX8_drop.desc).map (fun d => d.parameters.length) = some 0 := by decide +kernel

theorem hdX8_run : yX8_run.cls = cR 8 ∧ yX8_run.cls ≠ "java/lang/invoke/MethodHandle" ∧ yX8_run.cls ≠ "java/lang/invoke/VarHandle" ∧ (parseMethodDescriptor yX8_run.desc).map (fun d => d.parameters.length) = some 2 := by decide +kernel

theorem hdX8_ran : yX8_ran.cls = cR 8 ∧ yX8_ran.cls ≠ "java/lang/invoke/MethodHandle" ∧ yX8_ran.cls ≠ "java/lang/invoke/VarHandle" ∧ (parseMethodDescriptor yX8_ran.desc).map (fun d => d.parameters.length) = some 1 := by decide +kernel

theorem hdX8_told : yX8_told.cls = cR 8 ∧ yX8_told.cls ≠ "java/lang/invoke/MethodHandle" ∧ yX8_told.cls ≠ "java/lang/invoke/VarHandle" ∧ (parseMethodDescriptor yX8_told.desc).map (fun d => d.parameters.length) = some 1 := by decide +kernel

theorem hdX8_left : yX8_left.cls = cR 8 ∧ yX8_left.cls ≠ "java/lang/invoke/MethodHandle" ∧ yX8_left.cls ≠ "java/lang/invoke/VarHandle" ∧ (parseMethodDescriptor yX8_left.desc).map (fun d => d.parameters.length) = some 1 := by decide +kernel

theorem hdX8_leftOf : yX8_leftOf.cls = cR 8 ∧ yX8_leftOf.cls ≠ "java/lang/invoke/MethodHandle" ∧ yX8_leftOf.cls ≠ "java/lang/invoke/VarHandle" ∧ (parseMethodDescriptor yX8_leftOf.desc).map (fun d => d.parameters.length) = some 2 := by decide +kernel

theorem hdX8_lookAtHeaps : yX8_lookAtHeaps.cls = cR 8 ∧ yX8_lookAtHeaps.cls ≠ "java/lang/invoke/MethodHandle" ∧ yX8_lookAtHeaps.cls ≠ "java/lang/invoke/VarHandle" ∧ (parseMethodDescriptor yX8_lookAtHeaps.desc).map (fun d => d.parameters.length) = some 1 := by decide +kernel

theorem hdX8_heaps : yX8_heaps.cls = cR 8 ∧ yX8_heaps.cls ≠ "java/lang/invoke/MethodHandle" ∧ yX8_heaps.cls ≠ "java/lang/invoke/VarHandle" ∧ (parseMethodDescriptor yX8_heaps.desc).map (fun d => d.parameters.length) = some 1 := by decide +kernel

theorem hdX8_heap : yX8_heap.cls = cR 8 ∧ yX8_heap.cls ≠ "java/lang/invoke/MethodHandle" ∧ yX8_heap.cls ≠ "java/lang/invoke/VarHandle" ∧ (parseMethodDescriptor yX8_heap.desc).map (fun d => d.parameters.length) = some 3 := by decide +kernel

theorem hdX8_heapOf : yX8_heapOf.cls = cR 8 ∧ yX8_heapOf.cls ≠ "java/lang/invoke/MethodHandle" ∧ yX8_heapOf.cls ≠ "java/lang/invoke/VarHandle" ∧ (parseMethodDescriptor yX8_heapOf.desc).map (fun d => d.parameters.length) = some 2 := by decide +kernel

theorem hdX8_want : yX8_want.cls = cR 8 ∧ yX8_want.cls ≠ "java/lang/invoke/MethodHandle" ∧ yX8_want.cls ≠ "java/lang/invoke/VarHandle" ∧ (parseMethodDescriptor yX8_want.desc).map (fun d => d.parameters.length) = some 0 := by decide +kernel

theorem hdX8_isWanted : yX8_isWanted.cls = cR 8 ∧ yX8_isWanted.cls ≠ "java/lang/invoke/MethodHandle" ∧ yX8_isWanted.cls ≠ "java/lang/invoke/VarHandle" ∧ (parseMethodDescriptor yX8_isWanted.desc).map (fun d => d.parameters.length) = some 1 := by decide +kernel

theorem hdX8_leavesOut : yX8_leavesOut.cls = cR 8 ∧ yX8_leavesOut.cls ≠ "java/lang/invoke/MethodHandle" ∧ yX8_leavesOut.cls ≠ "java/lang/invoke/VarHandle" ∧ (parseMethodDescriptor yX8_leavesOut.desc).map (fun d => d.parameters.length) = some 2 := by decide +kernel

theorem hdX8_small : yX8_small.cls = cR 8 ∧ yX8_small.cls ≠ "java/lang/invoke/MethodHandle" ∧ yX8_small.cls ≠ "java/lang/invoke/VarHandle" ∧ (parseMethodDescriptor yX8_small.desc).map (fun d => d.parameters.length) = some 2 := by decide +kernel

theorem hdX8_smallByte : yX8_smallByte.cls = cR 8 ∧ yX8_smallByte.cls ≠ "java/lang/invoke/MethodHandle" ∧ yX8_smallByte.cls ≠ "java/lang/invoke/VarHandle" ∧ (parseMethodDescriptor yX8_smallByte.desc).map (fun d => d.parameters.length) = some 2 := by decide +kernel

theorem hdX8_ruled : yX8_ruled.cls = cR 8 ∧ yX8_ruled.cls ≠ "java/lang/invoke/MethodHandle" ∧ yX8_ruled.cls ≠ "java/lang/invoke/VarHandle" ∧ (parseMethodDescriptor yX8_ruled.desc).map (fun d => d.parameters.length) = some 2 := by decide +kernel

theorem hdX8_seek : yX8_seek.cls = cR 8 ∧ yX8_seek.cls ≠ "java/lang/invoke/MethodHandle" ∧ yX8_seek.cls ≠ "java/lang/invoke/VarHandle" ∧ (parseMethodDescriptor yX8_seek.desc).map (fun d => d.parameters.length) = some 2 := by decide +kernel

theorem hdX8_nearest : yX8_nearest.cls = cR 8 ∧ yX8_nearest.cls ≠ "java/lang/invoke/MethodHandle" ∧ yX8_nearest.cls ≠ "java/lang/invoke/VarHandle" ∧ (parseMethodDescriptor yX8_nearest.desc).map (fun d => d.parameters.length) = some 2 := by decide +kernel

theorem hdX8_nearestByte : yX8_nearestByte.cls = cR 8 ∧ yX8_nearestByte.cls ≠ "java/lang/invoke/MethodHandle" ∧ yX8_nearestByte.cls ≠ "java/lang/invoke/VarHandle" ∧ (parseMethodDescriptor yX8_nearestByte.desc).map (fun d => d.parameters.length) = some 2 := by decide +kernel

theorem hdX8_areOutsAlike : yX8_areOutsAlike.cls = cR 8 ∧ yX8_areOutsAlike.cls ≠ "java/lang/invoke/MethodHandle" ∧ yX8_areOutsAlike.cls ≠ "java/lang/invoke/VarHandle" ∧ (parseMethodDescriptor yX8_areOutsAlike.desc).map (fun d => d.parameters.length) = some 1 := by decide +kernel

theorem hdX8_held : yX8_held.cls = cR 8 ∧ yX8_held.cls ≠ "java/lang/invoke/MethodHandle" ∧ yX8_held.cls ≠ "java/lang/invoke/VarHandle" ∧ (parseMethodDescriptor yX8_held.desc).map (fun d => d.parameters.length) = some 3 := by decide +kernel

theorem hdX8_heldAll : yX8_heldAll.cls = cR 8 ∧ yX8_heldAll.cls ≠ "java/lang/invoke/MethodHandle" ∧ yX8_heldAll.cls ≠ "java/lang/invoke/VarHandle" ∧ (parseMethodDescriptor yX8_heldAll.desc).map (fun d => d.parameters.length) = some 3 := by decide +kernel

theorem hdX8_about : yX8_about.cls = cR 8 ∧ yX8_about.cls ≠ "java/lang/invoke/MethodHandle" ∧ yX8_about.cls ≠ "java/lang/invoke/VarHandle" ∧ (parseMethodDescriptor yX8_about.desc).map (fun d => d.parameters.length) = some 1 := by decide +kernel

theorem hdX8_feed : yX8_feed.cls = cR 8 ∧ yX8_feed.cls ≠ "java/lang/invoke/MethodHandle" ∧ yX8_feed.cls ≠ "java/lang/invoke/VarHandle" ∧ (parseMethodDescriptor yX8_feed.desc).map (fun d => d.parameters.length) = some 5 := by decide +kernel

theorem hdX8_end : yX8_end.cls = cR 8 ∧ yX8_end.cls ≠ "java/lang/invoke/MethodHandle" ∧ yX8_end.cls ≠ "java/lang/invoke/VarHandle" ∧ (parseMethodDescriptor yX8_end.desc).map (fun d => d.parameters.length) = some 1 := by decide +kernel

theorem hdX8_sign : yX8_sign.cls = cR 8 ∧ yX8_sign.cls ≠ "java/lang/invoke/MethodHandle" ∧ yX8_sign.cls ≠ "java/lang/invoke/VarHandle" ∧ (parseMethodDescriptor yX8_sign.desc).map (fun d => d.parameters.length) = some 1 := by decide +kernel

theorem hdX8_fails : yX8_fails.cls = cR 8 ∧ yX8_fails.cls ≠ "java/lang/invoke/MethodHandle" ∧ yX8_fails.cls ≠ "java/lang/invoke/VarHandle" ∧ (parseMethodDescriptor yX8_fails.desc).map (fun d => d.parameters.length) = some 2 := by decide +kernel

theorem hdX8_isGood : yX8_isGood.cls = cR 8 ∧ yX8_isGood.cls ≠ "java/lang/invoke/MethodHandle" ∧ yX8_isGood.cls ≠ "java/lang/invoke/VarHandle" ∧ (parseMethodDescriptor yX8_isGood.desc).map (fun d => d.parameters.length) = some 0 := by decide +kernel

theorem hdX8_next : yX8_next.cls = cR 8 ∧ yX8_next.cls ≠ "java/lang/invoke/MethodHandle" ∧ yX8_next.cls ≠ "java/lang/invoke/VarHandle" ∧ (parseMethodDescriptor yX8_next.desc).map (fun d => d.parameters.length) = some 0 := by decide +kernel

theorem hdX8_numeral : yX8_numeral.cls = cR 8 ∧ yX8_numeral.cls ≠ "java/lang/invoke/MethodHandle" ∧ yX8_numeral.cls ≠ "java/lang/invoke/VarHandle" ∧ (parseMethodDescriptor yX8_numeral.desc).map (fun d => d.parameters.length) = some 1 := by decide +kernel

theorem hdX8_wrong : yX8_wrong.cls = cR 8 ∧ yX8_wrong.cls ≠ "java/lang/invoke/MethodHandle" ∧ yX8_wrong.cls ≠ "java/lang/invoke/VarHandle" ∧ (parseMethodDescriptor yX8_wrong.desc).map (fun d => d.parameters.length) = some 0 := by decide +kernel

theorem hdX8_actHere : yX8_actHere.cls = cR 8 ∧ yX8_actHere.cls ≠ "java/lang/invoke/MethodHandle" ∧ yX8_actHere.cls ≠ "java/lang/invoke/VarHandle" ∧ (parseMethodDescriptor yX8_actHere.desc).map (fun d => d.parameters.length) = some 0 := by decide +kernel

theorem hdX8_labelOf : yX8_labelOf.cls = cR 8 ∧ yX8_labelOf.cls ≠ "java/lang/invoke/MethodHandle" ∧ yX8_labelOf.cls ≠ "java/lang/invoke/VarHandle" ∧ (parseMethodDescriptor yX8_labelOf.desc).map (fun d => d.parameters.length) = some 1 := by decide +kernel

theorem hdX8_goTo : yX8_goTo.cls = cR 8 ∧ yX8_goTo.cls ≠ "java/lang/invoke/MethodHandle" ∧ yX8_goTo.cls ≠ "java/lang/invoke/VarHandle" ∧ (parseMethodDescriptor yX8_goTo.desc).map (fun d => d.parameters.length) = some 1 := by decide +kernel

theorem hdX8_readLine : yX8_readLine.cls = cR 8 ∧ yX8_readLine.cls ≠ "java/lang/invoke/MethodHandle" ∧ yX8_readLine.cls ≠ "java/lang/invoke/VarHandle" ∧ (parseMethodDescriptor yX8_readLine.desc).map (fun d => d.parameters.length) = some 0 := by decide +kernel

theorem hdX8_readLabel : yX8_readLabel.cls = cR 8 ∧ yX8_readLabel.cls ≠ "java/lang/invoke/MethodHandle" ∧ yX8_readLabel.cls ≠ "java/lang/invoke/VarHandle" ∧ (parseMethodDescriptor yX8_readLabel.desc).map (fun d => d.parameters.length) = some 0 := by decide +kernel

theorem hdX8_readAct : yX8_readAct.cls = cR 8 ∧ yX8_readAct.cls ≠ "java/lang/invoke/MethodHandle" ∧ yX8_readAct.cls ≠ "java/lang/invoke/VarHandle" ∧ (parseMethodDescriptor yX8_readAct.desc).map (fun d => d.parameters.length) = some 0 := by decide +kernel

theorem hdX8_register : yX8_register.cls = cR 8 ∧ yX8_register.cls ≠ "java/lang/invoke/MethodHandle" ∧ yX8_register.cls ≠ "java/lang/invoke/VarHandle" ∧ (parseMethodDescriptor yX8_register.desc).map (fun d => d.parameters.length) = some 0 := by decide +kernel

theorem hdX8_isFall : yX8_isFall.cls ≠ "java/lang/invoke/MethodHandle" ∧ yX8_isFall.cls ≠ "java/lang/invoke/VarHandle" ∧ (parseMethodDescriptor yX8_isFall.desc).map (fun d => d.parameters.length) = some 1 := by decide +kernel

set_option maxHeartbeats 4000000 in
set_option maxRecDepth 100000 in
theorem c_X7_isShelf {l : Launch} {D : va_G} {w : gw} {M : Nat → Nat → Int32} {J : Nat → Nat → Int64} {R : Nat → Nat → Option Nat} {s : Int32} : Cf l yX7_isShelf wsX7_isShelf ({ frames := 0, cells := 0, slots := 0, locals := 0 } : Room) D w [.int s] M J R (some (.int (isSh s))) M J R := by
  refine Cg.of (own := RX7) (cc := cX7_isShelf) (maxL := 1) (ret := (some .boolean)) 0 (by decide) rfl rfl (Nat.le_of_ble_eq_true rfl) (fun X C hts V Rr => ?_)
  show Gj X 0 0 w M J R 0 [some (.int s)] []
  refine g_iload_n C dX7_isShelf_0 rfl ?_
  refine g_if_lt (tgt := 13) C dX7_isShelf_1 (by decide) (fun c1 => ?_) (fun c1 => ?_)
  · refine g_iconst (v := 0) C dX7_isShelf_13 (by decide) ?_
    exact g_zret C Rr rfl ⟨rfl, ⟨by simp only [isSh, if_pos c1], rfl⟩⟩ dX7_isShelf_14
  · refine g_iload_n C dX7_isShelf_4 rfl ?_
    refine g_iconst (v := 3) C dX7_isShelf_5 (by decide) ?_
    refine g_icmp_ge (tgt := 13) C dX7_isShelf_6 (by decide) (fun c6 => ?_) (fun c6 => ?_)
    · refine g_iconst (v := 0) C dX7_isShelf_13 (by decide) ?_
      exact g_zret C Rr rfl ⟨rfl, ⟨by simp only [isSh, if_neg c1, if_pos c6], rfl⟩⟩ dX7_isShelf_14
    · refine g_iconst (v := 1) C dX7_isShelf_9 (by decide) ?_
      refine g_goto (tgt := 14) C dX7_isShelf_10 (by decide) ?_
      exact g_zret C Rr rfl ⟨rfl, ⟨by simp only [isSh, if_neg c1, if_neg c6], rfl⟩⟩ dX7_isShelf_14

set_option maxHeartbeats 4000000 in
set_option maxRecDepth 100000 in
theorem c_X7_isLetter {l : Launch} {D : va_G} {w : gw} {M : Nat → Nat → Int32} {J : Nat → Nat → Int64} {R : Nat → Nat → Option Nat} {k : Int32} : Cf l yX7_isLetter wsX7_isLetter ({ frames := 0, cells := 0, slots := 0, locals := 0 } : Room) D w [.int k] M J R (some (.int (isLe k))) M J R := by
  refine Cg.of (own := RX7) (cc := cX7_isLetter) (maxL := 1) (ret := (some .boolean)) 0 (by decide) rfl rfl (Nat.le_of_ble_eq_true rfl) (fun X C hts V Rr => ?_)
  show Gj X 0 0 w M J R 0 [some (.int k)] []
  refine g_iload_n C dX7_isLetter_0 rfl ?_
  refine g_bipush (v := 97) C dX7_isLetter_1 (by decide) ?_
  refine g_icmp_lt (tgt := 16) C dX7_isLetter_3 (by decide) (fun c3 => ?_) (fun c3 => ?_)
  · refine g_iconst (v := 0) C dX7_isLetter_16 (by decide) ?_
    exact g_zret C Rr rfl ⟨rfl, ⟨by simp only [isLe, if_pos c3], rfl⟩⟩ dX7_isLetter_17
  · refine g_iload_n C dX7_isLetter_6 rfl ?_
    refine g_bipush (v := 122) C dX7_isLetter_7 (by decide) ?_
    refine g_icmp_gt (tgt := 16) C dX7_isLetter_9 (by decide) (fun c9 => ?_) (fun c9 => ?_)
    · refine g_iconst (v := 0) C dX7_isLetter_16 (by decide) ?_
      exact g_zret C Rr rfl ⟨rfl, ⟨by simp only [isLe, if_neg c3, if_pos c9], rfl⟩⟩ dX7_isLetter_17
    · refine g_iconst (v := 1) C dX7_isLetter_12 (by decide) ?_
      refine g_goto (tgt := 17) C dX7_isLetter_13 (by decide) ?_
      exact g_zret C Rr rfl ⟨rfl, ⟨by simp only [isLe, if_neg c3, if_neg c9], rfl⟩⟩ dX7_isLetter_17

set_option maxHeartbeats 4000000 in
set_option maxRecDepth 100000 in
theorem c_X7_isDigit {l : Launch} {D : va_G} {w : gw} {M : Nat → Nat → Int32} {J : Nat → Nat → Int64} {R : Nat → Nat → Option Nat} {k : Int32} : Cf l yX7_isDigit wsX7_isDigit ({ frames := 0, cells := 0, slots := 0, locals := 0 } : Room) D w [.int k] M J R (some (.int (isDi k))) M J R := by
  refine Cg.of (own := RX7) (cc := cX7_isDigit) (maxL := 1) (ret := (some .boolean)) 0 (by decide) rfl rfl (Nat.le_of_ble_eq_true rfl) (fun X C hts V Rr => ?_)
  show Gj X 0 0 w M J R 0 [some (.int k)] []
  refine g_iload_n C dX7_isDigit_0 rfl ?_
  refine g_bipush (v := 48) C dX7_isDigit_1 (by decide) ?_
  refine g_icmp_lt (tgt := 16) C dX7_isDigit_3 (by decide) (fun c3 => ?_) (fun c3 => ?_)
  · refine g_iconst (v := 0) C dX7_isDigit_16 (by decide) ?_
    exact g_zret C Rr rfl ⟨rfl, ⟨by simp only [isDi, if_pos c3], rfl⟩⟩ dX7_isDigit_17
  · refine g_iload_n C dX7_isDigit_6 rfl ?_
    refine g_bipush (v := 57) C dX7_isDigit_7 (by decide) ?_
    refine g_icmp_gt (tgt := 16) C dX7_isDigit_9 (by decide) (fun c9 => ?_) (fun c9 => ?_)
    · refine g_iconst (v := 0) C dX7_isDigit_16 (by decide) ?_
      exact g_zret C Rr rfl ⟨rfl, ⟨by simp only [isDi, if_neg c3, if_pos c9], rfl⟩⟩ dX7_isDigit_17
    · refine g_iconst (v := 1) C dX7_isDigit_12 (by decide) ?_
      refine g_goto (tgt := 17) C dX7_isDigit_13 (by decide) ?_
      exact g_zret C Rr rfl ⟨rfl, ⟨by simp only [isDi, if_neg c3, if_neg c9], rfl⟩⟩ dX7_isDigit_17

set_option maxHeartbeats 4000000 in
set_option maxRecDepth 100000 in
theorem c_X8_isShelf {l : Launch} {D : va_G} {w : gw} {M : Nat → Nat → Int32} {J : Nat → Nat → Int64} {R : Nat → Nat → Option Nat} {s : Int32} : Cf l yX8_isShelf wsX8_isShelf ({ frames := 0, cells := 0, slots := 0, locals := 0 } : Room) D w [.int s] M J R (some (.int (isSh s))) M J R := by
  refine Cg.of (own := RX8) (cc := cX8_isShelf) (maxL := 1) (ret := (some .boolean)) 0 (by decide) rfl rfl (Nat.le_of_ble_eq_true rfl) (fun X C hts V Rr => ?_)
  show Gj X 0 0 w M J R 0 [some (.int s)] []
  refine g_iload_n C dX8_isShelf_0 rfl ?_
  refine g_if_lt (tgt := 13) C dX8_isShelf_1 (by decide) (fun c1 => ?_) (fun c1 => ?_)
  · refine g_iconst (v := 0) C dX8_isShelf_13 (by decide) ?_
    exact g_zret C Rr rfl ⟨rfl, ⟨by simp only [isSh, if_pos c1], rfl⟩⟩ dX8_isShelf_14
  · refine g_iload_n C dX8_isShelf_4 rfl ?_
    refine g_iconst (v := 3) C dX8_isShelf_5 (by decide) ?_
    refine g_icmp_ge (tgt := 13) C dX8_isShelf_6 (by decide) (fun c6 => ?_) (fun c6 => ?_)
    · refine g_iconst (v := 0) C dX8_isShelf_13 (by decide) ?_
      exact g_zret C Rr rfl ⟨rfl, ⟨by simp only [isSh, if_neg c1, if_pos c6], rfl⟩⟩ dX8_isShelf_14
    · refine g_iconst (v := 1) C dX8_isShelf_9 (by decide) ?_
      refine g_goto (tgt := 14) C dX8_isShelf_10 (by decide) ?_
      exact g_zret C Rr rfl ⟨rfl, ⟨by simp only [isSh, if_neg c1, if_neg c6], rfl⟩⟩ dX8_isShelf_14

set_option maxHeartbeats 4000000 in
set_option maxRecDepth 100000 in
theorem c_X8_isLetter {l : Launch} {D : va_G} {w : gw} {M : Nat → Nat → Int32} {J : Nat → Nat → Int64} {R : Nat → Nat → Option Nat} {k : Int32} : Cf l yX8_isLetter wsX8_isLetter ({ frames := 0, cells := 0, slots := 0, locals := 0 } : Room) D w [.int k] M J R (some (.int (isLe k))) M J R := by
  refine Cg.of (own := RX8) (cc := cX8_isLetter) (maxL := 1) (ret := (some .boolean)) 0 (by decide) rfl rfl (Nat.le_of_ble_eq_true rfl) (fun X C hts V Rr => ?_)
  show Gj X 0 0 w M J R 0 [some (.int k)] []
  refine g_iload_n C dX8_isLetter_0 rfl ?_
  refine g_bipush (v := 97) C dX8_isLetter_1 (by decide) ?_
  refine g_icmp_lt (tgt := 16) C dX8_isLetter_3 (by decide) (fun c3 => ?_) (fun c3 => ?_)
  · refine g_iconst (v := 0) C dX8_isLetter_16 (by decide) ?_
    exact g_zret C Rr rfl ⟨rfl, ⟨by simp only [isLe, if_pos c3], rfl⟩⟩ dX8_isLetter_17
  · refine g_iload_n C dX8_isLetter_6 rfl ?_
    refine g_bipush (v := 122) C dX8_isLetter_7 (by decide) ?_
    refine g_icmp_gt (tgt := 16) C dX8_isLetter_9 (by decide) (fun c9 => ?_) (fun c9 => ?_)
    · refine g_iconst (v := 0) C dX8_isLetter_16 (by decide) ?_
      exact g_zret C Rr rfl ⟨rfl, ⟨by simp only [isLe, if_neg c3, if_pos c9], rfl⟩⟩ dX8_isLetter_17
    · refine g_iconst (v := 1) C dX8_isLetter_12 (by decide) ?_
      refine g_goto (tgt := 17) C dX8_isLetter_13 (by decide) ?_
      exact g_zret C Rr rfl ⟨rfl, ⟨by simp only [isLe, if_neg c3, if_neg c9], rfl⟩⟩ dX8_isLetter_17

set_option maxHeartbeats 4000000 in
set_option maxRecDepth 100000 in
theorem c_X8_isDigit {l : Launch} {D : va_G} {w : gw} {M : Nat → Nat → Int32} {J : Nat → Nat → Int64} {R : Nat → Nat → Option Nat} {k : Int32} : Cf l yX8_isDigit wsX8_isDigit ({ frames := 0, cells := 0, slots := 0, locals := 0 } : Room) D w [.int k] M J R (some (.int (isDi k))) M J R := by
  refine Cg.of (own := RX8) (cc := cX8_isDigit) (maxL := 1) (ret := (some .boolean)) 0 (by decide) rfl rfl (Nat.le_of_ble_eq_true rfl) (fun X C hts V Rr => ?_)
  show Gj X 0 0 w M J R 0 [some (.int k)] []
  refine g_iload_n C dX8_isDigit_0 rfl ?_
  refine g_bipush (v := 48) C dX8_isDigit_1 (by decide) ?_
  refine g_icmp_lt (tgt := 16) C dX8_isDigit_3 (by decide) (fun c3 => ?_) (fun c3 => ?_)
  · refine g_iconst (v := 0) C dX8_isDigit_16 (by decide) ?_
    exact g_zret C Rr rfl ⟨rfl, ⟨by simp only [isDi, if_pos c3], rfl⟩⟩ dX8_isDigit_17
  · refine g_iload_n C dX8_isDigit_6 rfl ?_
    refine g_bipush (v := 57) C dX8_isDigit_7 (by decide) ?_
    refine g_icmp_gt (tgt := 16) C dX8_isDigit_9 (by decide) (fun c9 => ?_) (fun c9 => ?_)
    · refine g_iconst (v := 0) C dX8_isDigit_16 (by decide) ?_
      exact g_zret C Rr rfl ⟨rfl, ⟨by simp only [isDi, if_neg c3, if_pos c9], rfl⟩⟩ dX8_isDigit_17
    · refine g_iconst (v := 1) C dX8_isDigit_12 (by decide) ?_
      refine g_goto (tgt := 17) C dX8_isDigit_13 (by decide) ?_
      exact g_zret C Rr rfl ⟨rfl, ⟨by simp only [isDi, if_neg c3, if_neg c9], rfl⟩⟩ dX8_isDigit_17

set_option maxHeartbeats 4000000 in
set_option maxRecDepth 100000 in
theorem c_X7_isCell {l : Launch} {D : va_G} {w : gw} {M : Nat → Nat → Int32} {J : Nat → Nat → Int64} {R : Nat → Nat → Option Nat} {k : Int32} : Cf l yX7_isCell wsX7_isCell ({ frames := 0, cells := 0, slots := 0, locals := 0 } : Room) D w [.int k] M J R (some (.int (isCe k))) M J R := by
  refine Cg.of (own := RX7) (cc := cX7_isCell) (maxL := 1) (ret := (some .boolean)) 0 (by decide) rfl rfl (Nat.le_of_ble_eq_true rfl) (fun X C hts V Rr => ?_)
  show Gj X 0 0 w M J R 0 [some (.int k)] []
  refine g_iload_n C dX7_isCell_0 rfl ?_
  refine g_if_lt (tgt := 14) C dX7_isCell_1 (by decide) (fun c1 => ?_) (fun c1 => ?_)
  · refine g_iconst (v := 0) C dX7_isCell_14 (by decide) ?_
    exact g_zret C Rr rfl ⟨rfl, ⟨by simp only [isCe, if_pos c1], rfl⟩⟩ dX7_isCell_15
  · refine g_iload_n C dX7_isCell_4 rfl ?_
    refine g_bipush (v := 40) C dX7_isCell_5 (by decide) ?_
    refine g_icmp_ge (tgt := 14) C dX7_isCell_7 (by decide) (fun c7 => ?_) (fun c7 => ?_)
    · refine g_iconst (v := 0) C dX7_isCell_14 (by decide) ?_
      exact g_zret C Rr rfl ⟨rfl, ⟨by simp only [isCe, if_neg c1, if_pos c7], rfl⟩⟩ dX7_isCell_15
    · refine g_iconst (v := 1) C dX7_isCell_10 (by decide) ?_
      refine g_goto (tgt := 15) C dX7_isCell_11 (by decide) ?_
      exact g_zret C Rr rfl ⟨rfl, ⟨by simp only [isCe, if_neg c1, if_neg c7], rfl⟩⟩ dX7_isCell_15

set_option maxHeartbeats 4000000 in
set_option maxRecDepth 100000 in
theorem c_X7_withLetter {l : Launch} {D : va_G} {w : gw} {M : Nat → Nat → Int32} {J : Nat → Nat → Int64} {R : Nat → Nat → Option Nat} {v : Int64} {k : Int32} : Cf l yX7_withLetter wsX7_withLetter ({ frames := 0, cells := 0, slots := 0, locals := 0 } : Room) D w [.long v, .int k] M J R (some (.long (v * 32 + (k - 97 + 1).toInt64))) M J R := by
  refine Cg.of (own := RX7) (cc := cX7_withLetter) (maxL := 3) (ret := (some .long)) 0 (by decide) rfl rfl (Nat.le_of_ble_eq_true rfl) (fun X C hts V Rr => ?_)
  show Gj X 0 0 w M J R 0 [some (.long v), none, some (.int k)] []
  refine g_lload_n C dX7_withLetter_0 rfl ?_
  refine g_ldc2 C (hts (.constantLong RX7 229 (32)) (by decide +kernel)) dX7_withLetter_1 ?_
  refine g_lmul C dX7_withLetter_4 ?_
  refine g_iload_n C dX7_withLetter_5 rfl ?_
  refine g_bipush (v := 97) C dX7_withLetter_6 (by decide) ?_
  refine g_isub C dX7_withLetter_8 ?_
  refine g_iconst (v := 1) C dX7_withLetter_9 (by decide) ?_
  refine g_iadd C dX7_withLetter_10 ?_
  refine g_i2l C dX7_withLetter_11 ?_
  refine g_ladd C dX7_withLetter_12 ?_
  exact g_lret C Rr ⟨rfl, ⟨rfl, rfl⟩⟩ dX7_withLetter_13

set_option maxHeartbeats 4000000 in
set_option maxRecDepth 100000 in
theorem c_X7_isInput {l : Launch} {D : va_G} {w : gw} {M : Nat → Nat → Int32} {J : Nat → Nat → Int64} {R : Nat → Nat → Option Nat} (hw : w.1 = 166) (hR : LayC R) {k : Int32} : Cf l yX7_isInput wsX7_isInput ({ frames := 0, cells := 0, slots := 0, locals := 0 } : Room) D w [.ref (w.2.1 0), .int k] M J R (some (.int (isIn (M 0 9) k))) M J R := by
  refine Cg.of (own := RX7) (cc := cX7_isInput) (maxL := 2) (ret := (some .boolean)) 0 (by decide) rfl rfl (Nat.le_of_ble_eq_true rfl) (fun X C hts V Rr => ?_)
  have F7 : FW X 7 := fun q h => hts q (List.mem_cons_of_mem _ (List.mem_append_right _ h))
  show Gj X 0 0 w M J R 0 [some (.ref (w.2.1 0)), some (.int k)] []
  refine g_iload_n C dX7_isInput_0 rfl ?_
  refine g_if_lt (tgt := 16) C dX7_isInput_1 (by decide) (fun c1 => ?_) (fun c1 => ?_)
  · refine g_iconst (v := 0) C dX7_isInput_16 (by decide) ?_
    exact g_zret C Rr rfl ⟨rfl, ⟨by simp only [isIn, if_pos c1], rfl⟩⟩ dX7_isInput_17
  · refine g_iload_n C dX7_isInput_4 rfl ?_
    refine g_aload_n C dX7_isInput_5 rfl ?_
    refine g_geti C F7 (by rw [hw]; decide) rfl (by decide) 9 (by decide) rfl (hts (.fieldLink RX7 62 "FallBench" "inputCount" "I") (by decide +kernel)) rfl rfl dX7_isInput_6 ?_
    refine g_icmp_ge (tgt := 16) C dX7_isInput_9 (by decide) (fun c9 => ?_) (fun c9 => ?_)
    · refine g_iconst (v := 0) C dX7_isInput_16 (by decide) ?_
      exact g_zret C Rr rfl ⟨rfl, ⟨by simp only [isIn, if_neg c1, if_pos c9], rfl⟩⟩ dX7_isInput_17
    · refine g_iconst (v := 1) C dX7_isInput_12 (by decide) ?_
      refine g_goto (tgt := 17) C dX7_isInput_13 (by decide) ?_
      exact g_zret C Rr rfl ⟨rfl, ⟨by simp only [isIn, if_neg c1, if_neg c9], rfl⟩⟩ dX7_isInput_17

set_option maxHeartbeats 4000000 in
set_option maxRecDepth 100000 in
theorem c_X8_isInput {l : Launch} {D : va_G} {w : gw} {M : Nat → Nat → Int32} {J : Nat → Nat → Int64} {R : Nat → Nat → Option Nat} (hw : w.1 = 166) (hR : LayM R) {k : Int32} : Cf l yX8_isInput wsX8_isInput ({ frames := 0, cells := 0, slots := 0, locals := 0 } : Room) D w [.ref (w.2.1 134), .int k] M J R (some (.int (isIn (M 134 23) k))) M J R := by
  refine Cg.of (own := RX8) (cc := cX8_isInput) (maxL := 2) (ret := (some .boolean)) 0 (by decide) rfl rfl (Nat.le_of_ble_eq_true rfl) (fun X C hts V Rr => ?_)
  have F8 : FW X 8 := fun q h => hts q (List.mem_cons_of_mem _ (List.mem_append_right _ h))
  show Gj X 0 0 w M J R 0 [some (.ref (w.2.1 134)), some (.int k)] []
  refine g_iload_n C dX8_isInput_0 rfl ?_
  refine g_if_lt (tgt := 16) C dX8_isInput_1 (by decide) (fun c1 => ?_) (fun c1 => ?_)
  · refine g_iconst (v := 0) C dX8_isInput_16 (by decide) ?_
    exact g_zret C Rr rfl ⟨rfl, ⟨by simp only [isIn, if_pos c1], rfl⟩⟩ dX8_isInput_17
  · refine g_iload_n C dX8_isInput_4 rfl ?_
    refine g_aload_n C dX8_isInput_5 rfl ?_
    refine g_geti C F8 (by rw [hw]; decide) rfl (by decide) 23 (by decide) rfl (hts (.fieldLink RX8 225 "FallBenchModel" "inputMany" "I") (by decide +kernel)) rfl rfl dX8_isInput_6 ?_
    refine g_icmp_ge (tgt := 16) C dX8_isInput_9 (by decide) (fun c9 => ?_) (fun c9 => ?_)
    · refine g_iconst (v := 0) C dX8_isInput_16 (by decide) ?_
      exact g_zret C Rr rfl ⟨rfl, ⟨by simp only [isIn, if_neg c1, if_pos c9], rfl⟩⟩ dX8_isInput_17
    · refine g_iconst (v := 1) C dX8_isInput_12 (by decide) ?_
      refine g_goto (tgt := 17) C dX8_isInput_13 (by decide) ?_
      exact g_zret C Rr rfl ⟨rfl, ⟨by simp only [isIn, if_neg c1, if_neg c9], rfl⟩⟩ dX8_isInput_17

set_option maxHeartbeats 4000000 in
set_option maxRecDepth 100000 in
theorem c_X7_fault {l : Launch} {D : va_G} {w : gw} {M : Nat → Nat → Int32} {J : Nat → Nat → Int64} {R : Nat → Nat → Option Nat} (hw : w.1 = 166) (hR : LayC R) {x : Int32} : Cf l yX7_fault wsX7_fault ({ frames := 0, cells := 0, slots := 0, locals := 0 } : Room) D w [.ref (w.2.1 0), .int x] M J R (some (.int (if x = 0 then M 4 9 else if x = 1 then M 4 10 else -1))) M J R := by
  refine Cg.of (own := RX7) (cc := cX7_fault) (maxL := 2) (ret := (some .int)) 0 (by decide) rfl rfl (Nat.le_of_ble_eq_true rfl) (fun X C hts V Rr => ?_)
  have F7 : FW X 7 := fun q h => hts q (List.mem_cons_of_mem _ (List.mem_append_left _ (List.mem_append_right _ h)))
  have F1 : FW X 1 := fun q h => hts q (List.mem_cons_of_mem _ (List.mem_append_right _ h))
  show Gj X 0 0 w M J R 0 [some (.ref (w.2.1 0)), some (.int x)] []
  refine g_iload_n C dX7_fault_0 rfl ?_
  by_cases s1_0 : x = 0
  · refine g_lookup (off := 27) (tgt := 28) C dX7_fault_1 rfl (by first | (rw [s1_0]; done) | (rw [s1_0]; rfl)) (by decide) ?_
    refine g_aload_n C dX7_fault_28 rfl ?_
    refine g_getr (j := 4) C F7 (by rw [hw]; decide) rfl (by decide) 2 (by decide) rfl (hts (.fieldLink RX7 27 "FallBench" "parser" "LFallBench$Parser;") (by decide +kernel)) rfl (hR (0, 2, 4) (by decide)) dX7_fault_29 ?_
    refine g_geti C F1 (by rw [hw]; decide) rfl (by decide) 9 (by decide) rfl (hts (.fieldLink RX7 85 "FallBench$Parser" "faultKind" "I") (by decide +kernel)) rfl rfl dX7_fault_32 ?_
    exact g_iret C Rr ⟨rfl, ⟨by simp only [if_pos s1_0], rfl⟩⟩ dX7_fault_35
  by_cases s1_1 : x = 1
  · refine g_lookup (off := 35) (tgt := 36) C dX7_fault_1 rfl (by first | (rw [s1_1]; done) | (rw [s1_1]; rfl)) (by decide) ?_
    refine g_aload_n C dX7_fault_36 rfl ?_
    refine g_getr (j := 4) C F7 (by rw [hw]; decide) rfl (by decide) 2 (by decide) rfl (hts (.fieldLink RX7 27 "FallBench" "parser" "LFallBench$Parser;") (by decide +kernel)) rfl (hR (0, 2, 4) (by decide)) dX7_fault_37 ?_
    refine g_geti C F1 (by rw [hw]; decide) rfl (by decide) 10 (by decide) rfl (hts (.fieldLink RX7 95 "FallBench$Parser" "faultPlace" "I") (by decide +kernel)) rfl rfl dX7_fault_40 ?_
    exact g_iret C Rr ⟨rfl, ⟨by simp only [if_neg s1_0, if_pos s1_1], rfl⟩⟩ dX7_fault_43
  refine g_lookup (off := 43) (tgt := 44) C dX7_fault_1 rfl (by first | (rw [lv_osw s1_0 (by decide), lv_osw s1_1 (by decide)]; done) | (rw [lv_osw s1_0 (by decide), lv_osw s1_1 (by decide)]; rfl)) (by decide) ?_
  refine g_iconst (v := (-1)) C dX7_fault_44 (by decide) ?_
  exact g_iret C Rr ⟨rfl, ⟨by simp only [if_neg s1_0, if_neg s1_1], rfl⟩⟩ dX7_fault_45

set_option maxHeartbeats 4000000 in
set_option maxRecDepth 100000 in
theorem c_X8_fault {l : Launch} {D : va_G} {w : gw} {M : Nat → Nat → Int32} {J : Nat → Nat → Int64} {R : Nat → Nat → Option Nat} (hw : w.1 = 166) (hR : LayM R) {x : Int32} : Cf l yX8_fault wsX8_fault ({ frames := 0, cells := 0, slots := 0, locals := 0 } : Room) D w [.ref (w.2.1 134), .int x] M J R (some (.int (if x = 0 then M 134 4 else if x = 1 then M 134 5 else -1))) M J R := by
  refine Cg.of (own := RX8) (cc := cX8_fault) (maxL := 2) (ret := (some .int)) 0 (by decide) rfl rfl (Nat.le_of_ble_eq_true rfl) (fun X C hts V Rr => ?_)
  have F8 : FW X 8 := fun q h => hts q (List.mem_cons_of_mem _ (List.mem_append_right _ h))
  show Gj X 0 0 w M J R 0 [some (.ref (w.2.1 134)), some (.int x)] []
  refine g_iload_n C dX8_fault_0 rfl ?_
  refine g_if_ne (tgt := 11) C dX8_fault_1 (by decide) (fun c1 => ?_) (fun c1 => ?_)
  · refine g_iload_n C dX8_fault_11 rfl ?_
    refine g_iconst (v := 1) C dX8_fault_12 (by decide) ?_
    refine g_icmp_ne (tgt := 23) C dX8_fault_13 (by decide) (fun c13 => ?_) (fun c13 => ?_)
    · refine g_iconst (v := (-1)) C dX8_fault_23 (by decide) ?_
      exact g_iret C Rr ⟨rfl, ⟨by simp only [if_neg c1, if_neg c13], rfl⟩⟩ dX8_fault_24
    · refine g_aload_n C dX8_fault_16 rfl ?_
      refine g_geti C F8 (by rw [hw]; decide) rfl (by decide) 5 (by decide) rfl (hts (.fieldLink RX8 16 "FallBenchModel" "faultPlace" "I") (by decide +kernel)) rfl rfl dX8_fault_17 ?_
      refine g_goto (tgt := 24) C dX8_fault_20 (by decide) ?_
      exact g_iret C Rr ⟨rfl, ⟨by simp only [if_neg c1, if_pos c13], rfl⟩⟩ dX8_fault_24
  · refine g_aload_n C dX8_fault_4 rfl ?_
    refine g_geti C F8 (by rw [hw]; decide) rfl (by decide) 4 (by decide) rfl (hts (.fieldLink RX8 115 "FallBenchModel" "faultKind" "I") (by decide +kernel)) rfl rfl dX8_fault_5 ?_
    refine g_goto (tgt := 24) C dX8_fault_8 (by decide) ?_
    exact g_iret C Rr ⟨rfl, ⟨by simp only [if_pos c1], rfl⟩⟩ dX8_fault_24

set_option maxHeartbeats 4000000 in
set_option maxRecDepth 100000 in
theorem c_X7_drop {l : Launch} {D : va_G} {w : gw} {M : Nat → Nat → Int32} {J : Nat → Nat → Int64} {R : Nat → Nat → Option Nat} (hw : w.1 = 166) (hR : LayC R) : Cf l yX7_drop wsX7_drop ({ frames := 0, cells := 0, slots := 0, locals := 0 } : Room) D w [.ref (w.2.1 0)] M J R (some (.int (if M 0 9 = 0 then 0 else 1))) (if M 0 9 = 0 then M else up2 M 0 9 (M 0 9 - 1)) J R := by
  refine Cg.of (own := RX7) (cc := cX7_drop) (maxL := 1) (ret := (some .boolean)) 0 (by decide) rfl rfl (Nat.le_of_ble_eq_true rfl) (fun X C hts V Rr => ?_)
  have F7 : FW X 7 := fun q h => hts q (List.mem_cons_of_mem _ (List.mem_append_right _ h))
  show Gj X 0 0 w M J R 0 [some (.ref (w.2.1 0))] []
  refine g_aload_n C dX7_drop_0 rfl ?_
  refine g_geti C F7 (by rw [hw]; decide) rfl (by decide) 9 (by decide) rfl (hts (.fieldLink RX7 62 "FallBench" "inputCount" "I") (by decide +kernel)) rfl rfl dX7_drop_1 ?_
  refine g_if_ne (tgt := 9) C dX7_drop_4 (by decide) (fun c4 => ?_) (fun c4 => ?_)
  · refine g_aload_n C dX7_drop_9 rfl ?_
    refine g_dup C dX7_drop_10 rfl ?_
    refine g_geti C F7 (by rw [hw]; decide) rfl (by decide) 9 (by decide) rfl (hts (.fieldLink RX7 62 "FallBench" "inputCount" "I") (by decide +kernel)) rfl rfl dX7_drop_11 ?_
    refine g_iconst (v := 1) C dX7_drop_14 (by decide) ?_
    refine g_isub C dX7_drop_15 ?_
    refine g_puti C F7 (by rw [hw]; decide) rfl (by decide) 9 (by decide) rfl (hts (.fieldLink RX7 62 "FallBench" "inputCount" "I") (by decide +kernel)) rfl rfl rfl rfl dX7_drop_16 ?_
    refine g_iconst (v := 1) C dX7_drop_19 (by decide) ?_
    exact g_zret C Rr rfl ⟨rfl, ⟨by simp only [if_neg c4], by simp only [if_neg c4]⟩⟩ dX7_drop_20
  · refine g_iconst (v := 0) C dX7_drop_7 (by decide) ?_
    exact g_zret C Rr rfl ⟨rfl, ⟨by simp only [if_pos c4], by simp only [if_pos c4]⟩⟩ dX7_drop_8

set_option maxHeartbeats 4000000 in
set_option maxRecDepth 100000 in
theorem c_X8_drop {l : Launch} {D : va_G} {w : gw} {M : Nat → Nat → Int32} {J : Nat → Nat → Int64} {R : Nat → Nat → Option Nat} (hw : w.1 = 166) (hR : LayM R) : Cf l yX8_drop wsX8_drop ({ frames := 0, cells := 0, slots := 0, locals := 0 } : Room) D w [.ref (w.2.1 134)] M J R (some (.int (if M 134 23 = 0 then 0 else 1))) (if M 134 23 = 0 then M else up2 M 134 23 (M 134 23 - 1)) J R := by
  refine Cg.of (own := RX8) (cc := cX8_drop) (maxL := 1) (ret := (some .boolean)) 0 (by decide) rfl rfl (Nat.le_of_ble_eq_true rfl) (fun X C hts V Rr => ?_)
  have F8 : FW X 8 := fun q h => hts q (List.mem_cons_of_mem _ (List.mem_append_right _ h))
  show Gj X 0 0 w M J R 0 [some (.ref (w.2.1 134))] []
  refine g_aload_n C dX8_drop_0 rfl ?_
  refine g_geti C F8 (by rw [hw]; decide) rfl (by decide) 23 (by decide) rfl (hts (.fieldLink RX8 225 "FallBenchModel" "inputMany" "I") (by decide +kernel)) rfl rfl dX8_drop_1 ?_
  refine g_if_ne (tgt := 9) C dX8_drop_4 (by decide) (fun c4 => ?_) (fun c4 => ?_)
  · refine g_aload_n C dX8_drop_9 rfl ?_
    refine g_dup C dX8_drop_10 rfl ?_
    refine g_geti C F8 (by rw [hw]; decide) rfl (by decide) 23 (by decide) rfl (hts (.fieldLink RX8 225 "FallBenchModel" "inputMany" "I") (by decide +kernel)) rfl rfl dX8_drop_11 ?_
    refine g_iconst (v := 1) C dX8_drop_14 (by decide) ?_
    refine g_isub C dX8_drop_15 ?_
    refine g_puti C F8 (by rw [hw]; decide) rfl (by decide) 23 (by decide) rfl (hts (.fieldLink RX8 225 "FallBenchModel" "inputMany" "I") (by decide +kernel)) rfl rfl rfl rfl dX8_drop_16 ?_
    refine g_iconst (v := 1) C dX8_drop_19 (by decide) ?_
    exact g_zret C Rr rfl ⟨rfl, ⟨by simp only [if_neg c4], by simp only [if_neg c4]⟩⟩ dX8_drop_20
  · refine g_iconst (v := 0) C dX8_drop_7 (by decide) ?_
    exact g_zret C Rr rfl ⟨rfl, ⟨by simp only [if_pos c4], by simp only [if_pos c4]⟩⟩ dX8_drop_8

def e_ans (t n : Int32) : Int32 := if n < 0 then -1 else if n ≤ t then n else -1
def e_mem (M : Nat → Nat → Int32) (i k : Nat) (n : Int32) : Nat → Nat → Int32 := if n < 0 then M else if n ≤ M i k then up2 M i k n else M

set_option maxHeartbeats 4000000 in
set_option maxRecDepth 100000 in
theorem c_X7_end {l : Launch} {D : va_G} {w : gw} {M : Nat → Nat → Int32} {J : Nat → Nat → Int64} {R : Nat → Nat → Option Nat} (hw : w.1 = 166) (hR : LayC R) {n : Int32} : Cf l yX7_end wsX7_end ({ frames := 0, cells := 0, slots := 0, locals := 0 } : Room) D w [.ref (w.2.1 0), .int n] M J R (some (.int (e_ans (M 1 1) n))) (e_mem M 1 1 n) J R := by
  refine Cg.of (own := RX7) (cc := cX7_end) (maxL := 2) (ret := (some .int)) 0 (by decide) rfl rfl (Nat.le_of_ble_eq_true rfl) (fun X C hts V Rr => ?_)
  have F7 : FW X 7 := fun q h => hts q (List.mem_cons_of_mem _ (List.mem_append_left _ (List.mem_append_right _ h)))
  have F3 : FW X 3 := fun q h => hts q (List.mem_cons_of_mem _ (List.mem_append_right _ h))
  show Gj X 0 0 w M J R 0 [some (.ref (w.2.1 0)), some (.int n)] []
  refine g_iload_n C dX7_end_0 rfl ?_
  refine g_if_lt (tgt := 15) C dX7_end_1 (by decide) (fun c1 => ?_) (fun c1 => ?_)
  · refine g_iconst (v := (-1)) C dX7_end_15 (by decide) ?_
    exact g_iret C Rr ⟨rfl, ⟨by simp only [e_ans, if_pos c1], by simp only [e_mem, if_pos c1]⟩⟩ dX7_end_16
  · refine g_iload_n C dX7_end_4 rfl ?_
    refine g_aload_n C dX7_end_5 rfl ?_
    refine g_getr (j := 1) C F7 (by rw [hw]; decide) rfl (by decide) 0 (by decide) rfl (hts (.fieldLink RX7 14 "FallBench" "tape" "LFallBench$Row;") (by decide +kernel)) rfl (hR (0, 0, 1) (by decide)) dX7_end_6 ?_
    refine g_geti C F3 (by rw [hw]; decide) rfl (by decide) 1 (by decide) rfl (hts (.fieldLink RX7 71 "FallBench$Row" "length" "I") (by decide +kernel)) rfl rfl dX7_end_9 ?_
    refine g_icmp_le (tgt := 17) C dX7_end_12 (by decide) (fun c12 => ?_) (fun c12 => ?_)
    · refine g_aload_n C dX7_end_17 rfl ?_
      refine g_getr (j := 1) C F7 (by rw [hw]; decide) rfl (by decide) 0 (by decide) rfl (hts (.fieldLink RX7 14 "FallBench" "tape" "LFallBench$Row;") (by decide +kernel)) rfl (hR (0, 0, 1) (by decide)) dX7_end_18 ?_
      refine g_iload_n C dX7_end_21 rfl ?_
      refine g_puti C F3 (by rw [hw]; decide) rfl (by decide) 1 (by decide) rfl (hts (.fieldLink RX7 71 "FallBench$Row" "length" "I") (by decide +kernel)) rfl rfl rfl rfl dX7_end_22 ?_
      refine g_iload_n C dX7_end_25 rfl ?_
      exact g_iret C Rr ⟨rfl, ⟨by simp only [e_ans, if_neg c1, if_pos c12], by simp only [e_mem, if_neg c1, if_pos c12]⟩⟩ dX7_end_26
    · refine g_iconst (v := (-1)) C dX7_end_15 (by decide) ?_
      exact g_iret C Rr ⟨rfl, ⟨by simp only [e_ans, if_neg c1, if_neg c12], by simp only [e_mem, if_neg c1, if_neg c12]⟩⟩ dX7_end_16

set_option maxHeartbeats 4000000 in
set_option maxRecDepth 100000 in
theorem c_X8_end {l : Launch} {D : va_G} {w : gw} {M : Nat → Nat → Int32} {J : Nat → Nat → Int64} {R : Nat → Nat → Option Nat} (hw : w.1 = 166) (hR : LayM R) {n : Int32} : Cf l yX8_end wsX8_end ({ frames := 0, cells := 0, slots := 0, locals := 0 } : Room) D w [.ref (w.2.1 134), .int n] M J R (some (.int (e_ans (M 134 2) n))) (e_mem M 134 2 n) J R := by
  refine Cg.of (own := RX8) (cc := cX8_end) (maxL := 2) (ret := (some .int)) 0 (by decide) rfl rfl (Nat.le_of_ble_eq_true rfl) (fun X C hts V Rr => ?_)
  have F8 : FW X 8 := fun q h => hts q (List.mem_cons_of_mem _ (List.mem_append_right _ h))
  show Gj X 0 0 w M J R 0 [some (.ref (w.2.1 134)), some (.int n)] []
  refine g_iload_n C dX8_end_0 rfl ?_
  refine g_if_lt (tgt := 12) C dX8_end_1 (by decide) (fun c1 => ?_) (fun c1 => ?_)
  · refine g_iconst (v := (-1)) C dX8_end_12 (by decide) ?_
    exact g_iret C Rr ⟨rfl, ⟨by simp only [e_ans, if_pos c1], by simp only [e_mem, if_pos c1]⟩⟩ dX8_end_13
  · refine g_iload_n C dX8_end_4 rfl ?_
    refine g_aload_n C dX8_end_5 rfl ?_
    refine g_geti C F8 (by rw [hw]; decide) rfl (by decide) 2 (by decide) rfl (hts (.fieldLink RX8 184 "FallBenchModel" "taped" "I") (by decide +kernel)) rfl rfl dX8_end_6 ?_
    refine g_icmp_le (tgt := 14) C dX8_end_9 (by decide) (fun c9 => ?_) (fun c9 => ?_)
    · refine g_aload_n C dX8_end_14 rfl ?_
      refine g_iload_n C dX8_end_15 rfl ?_
      refine g_puti C F8 (by rw [hw]; decide) rfl (by decide) 2 (by decide) rfl (hts (.fieldLink RX8 184 "FallBenchModel" "taped" "I") (by decide +kernel)) rfl rfl rfl rfl dX8_end_16 ?_
      refine g_iload_n C dX8_end_19 rfl ?_
      exact g_iret C Rr ⟨rfl, ⟨by simp only [e_ans, if_neg c1, if_pos c9], by simp only [e_mem, if_neg c1, if_pos c9]⟩⟩ dX8_end_20
    · refine g_iconst (v := (-1)) C dX8_end_12 (by decide) ?_
      exact g_iret C Rr ⟨rfl, ⟨by simp only [e_ans, if_neg c1, if_neg c9], by simp only [e_mem, if_neg c1, if_neg c9]⟩⟩ dX8_end_13

def r_ran (h x a b c d e f g : Int32) : Int32 := if h = 0 then -1 else if x = 0 then a else if x = 1 then b else if x = 2 then c else if x = 3 then d else if x = 4 then e else if x = 5 then f else if x = 6 then g else -1

set_option maxHeartbeats 4000000 in
set_option maxRecDepth 100000 in
theorem c_X7_ran {l : Launch} {D : va_G} {w : gw} {M : Nat → Nat → Int32} {J : Nat → Nat → Int64} {R : Nat → Nat → Option Nat} (hw : w.1 = 166) (hR : LayC R) {x : Int32} : Cf l yX7_ran wsX7_ran ({ frames := 0, cells := 0, slots := 0, locals := 0 } : Room) D w [.ref (w.2.1 0), .int x] M J R (some (.int (r_ran (M 0 10) x (M 20 6) (M 20 8) (M 20 9) (M 20 10) (M 20 11) (M 20 4) (M 20 5)))) M J R := by
  refine Cg.of (own := RX7) (cc := cX7_ran) (maxL := 2) (ret := (some .int)) 0 (by decide) rfl rfl (Nat.le_of_ble_eq_true rfl) (fun X C hts V Rr => ?_)
  have F7 : FW X 7 := fun q h => hts q (List.mem_cons_of_mem _ (List.mem_append_left _ (List.mem_append_right _ h)))
  have F0 : FW X 0 := fun q h => hts q (List.mem_cons_of_mem _ (List.mem_append_right _ h))
  show Gj X 0 0 w M J R 0 [some (.ref (w.2.1 0)), some (.int x)] []
  refine g_aload_n C dX7_ran_0 rfl ?_
  refine g_geti C F7 (by rw [hw]; decide) rfl (by decide) 10 (by decide) rfl (hts (.fieldLink RX7 66 "FallBench" "hasRun" "Z") (by decide +kernel)) rfl rfl dX7_ran_1 ?_
  refine g_if_ne (tgt := 9) C dX7_ran_4 (by decide) (fun c4 => ?_) (fun c4 => ?_)
  · refine g_iload_n C dX7_ran_9 rfl ?_
    by_cases s10_0 : x = 0
    · refine g_tableIn (tgt := 52) C dX7_ran_10 (by rw [s10_0]; decide) (by rw [s10_0]; decide) (by rw [s10_0]; rfl) (by decide) ?_
      refine g_aload_n C dX7_ran_52 rfl ?_
      refine g_getr (j := 20) C F7 (by rw [hw]; decide) rfl (by decide) 4 (by decide) rfl (hts (.fieldLink RX7 38 "FallBench" "latest" "LFallBench$Machine;") (by decide +kernel)) rfl (hR (0, 4, 20) (by decide)) dX7_ran_53 ?_
      refine g_geti C F0 (by rw [hw]; decide) rfl (by decide) 6 (by decide) rfl (hts (.fieldLink RX7 129 "FallBench$Machine" "steps" "I") (by decide +kernel)) rfl rfl dX7_ran_56 ?_
      exact g_iret C Rr ⟨rfl, ⟨by simp only [r_ran, if_neg c4, if_pos s10_0], rfl⟩⟩ dX7_ran_59
    by_cases s10_1 : x = 1
    · refine g_tableIn (tgt := 60) C dX7_ran_10 (by rw [s10_1]; decide) (by rw [s10_1]; decide) (by rw [s10_1]; rfl) (by decide) ?_
      refine g_aload_n C dX7_ran_60 rfl ?_
      refine g_getr (j := 20) C F7 (by rw [hw]; decide) rfl (by decide) 4 (by decide) rfl (hts (.fieldLink RX7 38 "FallBench" "latest" "LFallBench$Machine;") (by decide +kernel)) rfl (hR (0, 4, 20) (by decide)) dX7_ran_61 ?_
      refine g_geti C F0 (by rw [hw]; decide) rfl (by decide) 8 (by decide) rfl (hts (.fieldLink RX7 132 "FallBench$Machine" "endAct" "I") (by decide +kernel)) rfl rfl dX7_ran_64 ?_
      exact g_iret C Rr ⟨rfl, ⟨by simp only [r_ran, if_neg c4, if_neg s10_0, if_pos s10_1], rfl⟩⟩ dX7_ran_67
    by_cases s10_2 : x = 2
    · refine g_tableIn (tgt := 68) C dX7_ran_10 (by rw [s10_2]; decide) (by rw [s10_2]; decide) (by rw [s10_2]; rfl) (by decide) ?_
      refine g_aload_n C dX7_ran_68 rfl ?_
      refine g_getr (j := 20) C F7 (by rw [hw]; decide) rfl (by decide) 4 (by decide) rfl (hts (.fieldLink RX7 38 "FallBench" "latest" "LFallBench$Machine;") (by decide +kernel)) rfl (hR (0, 4, 20) (by decide)) dX7_ran_69 ?_
      refine g_geti C F0 (by rw [hw]; decide) rfl (by decide) 9 (by decide) rfl (hts (.fieldLink RX7 135 "FallBench$Machine" "wrong" "I") (by decide +kernel)) rfl rfl dX7_ran_72 ?_
      exact g_iret C Rr ⟨rfl, ⟨by simp only [r_ran, if_neg c4, if_neg s10_0, if_neg s10_1, if_pos s10_2], rfl⟩⟩ dX7_ran_75
    by_cases s10_3 : x = 3
    · refine g_tableIn (tgt := 76) C dX7_ran_10 (by rw [s10_3]; decide) (by rw [s10_3]; decide) (by rw [s10_3]; rfl) (by decide) ?_
      refine g_aload_n C dX7_ran_76 rfl ?_
      refine g_getr (j := 20) C F7 (by rw [hw]; decide) rfl (by decide) 4 (by decide) rfl (hts (.fieldLink RX7 38 "FallBench" "latest" "LFallBench$Machine;") (by decide +kernel)) rfl (hR (0, 4, 20) (by decide)) dX7_ran_77 ?_
      refine g_geti C F0 (by rw [hw]; decide) rfl (by decide) 10 (by decide) rfl (hts (.fieldLink RX7 138 "FallBench$Machine" "wrongMaker" "I") (by decide +kernel)) rfl rfl dX7_ran_80 ?_
      exact g_iret C Rr ⟨rfl, ⟨by simp only [r_ran, if_neg c4, if_neg s10_0, if_neg s10_1, if_neg s10_2, if_pos s10_3], rfl⟩⟩ dX7_ran_83
    by_cases s10_4 : x = 4
    · refine g_tableIn (tgt := 84) C dX7_ran_10 (by rw [s10_4]; decide) (by rw [s10_4]; decide) (by rw [s10_4]; rfl) (by decide) ?_
      refine g_aload_n C dX7_ran_84 rfl ?_
      refine g_getr (j := 20) C F7 (by rw [hw]; decide) rfl (by decide) 4 (by decide) rfl (hts (.fieldLink RX7 38 "FallBench" "latest" "LFallBench$Machine;") (by decide +kernel)) rfl (hR (0, 4, 20) (by decide)) dX7_ran_85 ?_
      refine g_geti C F0 (by rw [hw]; decide) rfl (by decide) 11 (by decide) rfl (hts (.fieldLink RX7 141 "FallBench$Machine" "wrongBytes" "I") (by decide +kernel)) rfl rfl dX7_ran_88 ?_
      exact g_iret C Rr ⟨rfl, ⟨by simp only [r_ran, if_neg c4, if_neg s10_0, if_neg s10_1, if_neg s10_2, if_neg s10_3, if_pos s10_4], rfl⟩⟩ dX7_ran_91
    by_cases s10_5 : x = 5
    · refine g_tableIn (tgt := 92) C dX7_ran_10 (by rw [s10_5]; decide) (by rw [s10_5]; decide) (by rw [s10_5]; rfl) (by decide) ?_
      refine g_aload_n C dX7_ran_92 rfl ?_
      refine g_getr (j := 20) C F7 (by rw [hw]; decide) rfl (by decide) 4 (by decide) rfl (hts (.fieldLink RX7 38 "FallBench" "latest" "LFallBench$Machine;") (by decide +kernel)) rfl (hR (0, 4, 20) (by decide)) dX7_ran_93 ?_
      refine g_geti C F0 (by rw [hw]; decide) rfl (by decide) 4 (by decide) rfl (hts (.fieldLink RX7 144 "FallBench$Machine" "toldCount" "I") (by decide +kernel)) rfl rfl dX7_ran_96 ?_
      exact g_iret C Rr ⟨rfl, ⟨by simp only [r_ran, if_neg c4, if_neg s10_0, if_neg s10_1, if_neg s10_2, if_neg s10_3, if_neg s10_4, if_pos s10_5], rfl⟩⟩ dX7_ran_99
    by_cases s10_6 : x = 6
    · refine g_tableIn (tgt := 100) C dX7_ran_10 (by rw [s10_6]; decide) (by rw [s10_6]; decide) (by rw [s10_6]; rfl) (by decide) ?_
      refine g_aload_n C dX7_ran_100 rfl ?_
      refine g_getr (j := 20) C F7 (by rw [hw]; decide) rfl (by decide) 4 (by decide) rfl (hts (.fieldLink RX7 38 "FallBench" "latest" "LFallBench$Machine;") (by decide +kernel)) rfl (hR (0, 4, 20) (by decide)) dX7_ran_101 ?_
      refine g_geti C F0 (by rw [hw]; decide) rfl (by decide) 5 (by decide) rfl (hts (.fieldLink RX7 147 "FallBench$Machine" "readCount" "I") (by decide +kernel)) rfl rfl dX7_ran_104 ?_
      exact g_iret C Rr ⟨rfl, ⟨by simp only [r_ran, if_neg c4, if_neg s10_0, if_neg s10_1, if_neg s10_2, if_neg s10_3, if_neg s10_4, if_neg s10_5, if_pos s10_6], rfl⟩⟩ dX7_ran_107
    refine g_tableOut (tgt := 108) C dX7_ran_10 (by have e0 := lv_neT s10_0 (a := 0) (by decide); have e1 := lv_neT s10_1 (a := 1) (by decide); have e2 := lv_neT s10_2 (a := 2) (by decide); have e3 := lv_neT s10_3 (a := 3) (by decide); have e4 := lv_neT s10_4 (a := 4) (by decide); have e5 := lv_neT s10_5 (a := 5) (by decide); have e6 := lv_neT s10_6 (a := 6) (by decide); omega) (by decide) ?_
    refine g_iconst (v := (-1)) C dX7_ran_108 (by decide) ?_
    exact g_iret C Rr ⟨rfl, ⟨by simp only [r_ran, if_neg c4, if_neg s10_0, if_neg s10_1, if_neg s10_2, if_neg s10_3, if_neg s10_4, if_neg s10_5, if_neg s10_6], rfl⟩⟩ dX7_ran_109
  · refine g_iconst (v := (-1)) C dX7_ran_7 (by decide) ?_
    exact g_iret C Rr ⟨rfl, ⟨by simp only [r_ran, if_pos c4], rfl⟩⟩ dX7_ran_8

set_option maxHeartbeats 4000000 in
set_option maxRecDepth 100000 in
theorem c_X8_ran {l : Launch} {D : va_G} {w : gw} {M : Nat → Nat → Int32} {J : Nat → Nat → Int64} {R : Nat → Nat → Option Nat} (hw : w.1 = 166) (hR : LayM R) {x : Int32} : Cf l yX8_ran wsX8_ran ({ frames := 0, cells := 0, slots := 0, locals := 0 } : Room) D w [.ref (w.2.1 134), .int x] M J R (some (.int (if M 134 44 = 0 then -1 else if x < 0 then -1 else if x ≤ 6 then M 157 x.toNatClampNeg else -1))) M J R := by
  refine Cg.of (own := RX8) (cc := cX8_ran) (maxL := 2) (ret := (some .int)) 0 (by decide) rfl rfl (Nat.le_of_ble_eq_true rfl) (fun X C hts V Rr => ?_)
  have F8 : FW X 8 := fun q h => hts q (List.mem_cons_of_mem _ (List.mem_append_right _ h))
  show Gj X 0 0 w M J R 0 [some (.ref (w.2.1 134)), some (.int x)] []
  refine g_aload_n C dX8_ran_0 rfl ?_
  refine g_geti C F8 (by rw [hw]; decide) rfl (by decide) 44 (by decide) rfl (hts (.fieldLink RX8 288 "FallBenchModel" "hasRun" "Z") (by decide +kernel)) rfl rfl dX8_ran_1 ?_
  refine g_if_eq (tgt := 17) C dX8_ran_4 (by decide) (fun c4 => ?_) (fun c4 => ?_)
  · refine g_iconst (v := (-1)) C dX8_ran_17 (by decide) ?_
    refine g_goto (tgt := 27) C dX8_ran_18 (by decide) ?_
    exact g_iret C Rr ⟨rfl, ⟨by simp only [if_pos c4], rfl⟩⟩ dX8_ran_27
  · refine g_iload_n C dX8_ran_7 rfl ?_
    refine g_if_lt (tgt := 17) C dX8_ran_8 (by decide) (fun c8 => ?_) (fun c8 => ?_)
    · refine g_iconst (v := (-1)) C dX8_ran_17 (by decide) ?_
      refine g_goto (tgt := 27) C dX8_ran_18 (by decide) ?_
      exact g_iret C Rr ⟨rfl, ⟨by simp only [if_neg c4, if_pos c8], rfl⟩⟩ dX8_ran_27
    · refine g_iload_n C dX8_ran_11 rfl ?_
      refine g_bipush (v := 6) C dX8_ran_12 (by decide) ?_
      refine g_icmp_le (tgt := 21) C dX8_ran_14 (by decide) (fun c14 => ?_) (fun c14 => ?_)
      · refine g_aload_n C dX8_ran_21 rfl ?_
        refine g_getr (j := 157) C F8 (by rw [hw]; decide) rfl (by decide) 43 (by decide) rfl (hts (.fieldLink RX8 82 "FallBenchModel" "look" "[I") (by decide +kernel)) rfl (hR (43, 157) (by decide)) dX8_ran_22 ?_
        refine g_iload_n C dX8_ran_25 rfl ?_
        refine g_iald C (by rw [hw]; decide) rfl (inOf (n := 7) (by decide) c8 (fun z => absurd (Int32.le_trans z c14) (by decide))) rfl dX8_ran_26 ?_
        exact g_iret C Rr ⟨rfl, ⟨by simp only [if_neg c4, if_neg c8, if_pos c14], rfl⟩⟩ dX8_ran_27
      · refine g_iconst (v := (-1)) C dX8_ran_17 (by decide) ?_
        refine g_goto (tgt := 27) C dX8_ran_18 (by decide) ?_
        exact g_iret C Rr ⟨rfl, ⟨by simp only [if_neg c4, if_neg c8, if_neg c14], rfl⟩⟩ dX8_ran_27

set_option maxHeartbeats 4000000 in
set_option maxRecDepth 100000 in
theorem c_X8_left {l : Launch} {D : va_G} {w : gw} {M : Nat → Nat → Int32} {J : Nat → Nat → Int64} {R : Nat → Nat → Option Nat} (hw : w.1 = 166) (hR : LayM R) {k : Int32} : Cf l yX8_left wsX8_left ({ frames := 0, cells := 0, slots := 0, locals := 0 } : Room) D w [.ref (w.2.1 134), .int k] M J R (some (.int (if M 134 44 = 0 then 0 else if k < 0 then 0 else if k < 40 then M 153 k.toNatClampNeg else 0))) M J R := by
  refine Cg.of (own := RX8) (cc := cX8_left) (maxL := 2) (ret := (some .int)) 0 (by decide) rfl rfl (Nat.le_of_ble_eq_true rfl) (fun X C hts V Rr => ?_)
  have F8 : FW X 8 := fun q h => hts q (List.mem_cons_of_mem _ (List.mem_append_right _ h))
  show Gj X 0 0 w M J R 0 [some (.ref (w.2.1 134)), some (.int k)] []
  refine g_aload_n C dX8_left_0 rfl ?_
  refine g_geti C F8 (by rw [hw]; decide) rfl (by decide) 44 (by decide) rfl (hts (.fieldLink RX8 288 "FallBenchModel" "hasRun" "Z") (by decide +kernel)) rfl rfl dX8_left_1 ?_
  refine g_if_eq (tgt := 17) C dX8_left_4 (by decide) (fun c4 => ?_) (fun c4 => ?_)
  · refine g_iconst (v := 0) C dX8_left_17 (by decide) ?_
    refine g_goto (tgt := 27) C dX8_left_18 (by decide) ?_
    exact g_iret C Rr ⟨rfl, ⟨by simp only [if_pos c4], rfl⟩⟩ dX8_left_27
  · refine g_iload_n C dX8_left_7 rfl ?_
    refine g_if_lt (tgt := 17) C dX8_left_8 (by decide) (fun c8 => ?_) (fun c8 => ?_)
    · refine g_iconst (v := 0) C dX8_left_17 (by decide) ?_
      refine g_goto (tgt := 27) C dX8_left_18 (by decide) ?_
      exact g_iret C Rr ⟨rfl, ⟨by simp only [if_neg c4, if_pos c8], rfl⟩⟩ dX8_left_27
    · refine g_iload_n C dX8_left_11 rfl ?_
      refine g_bipush (v := 40) C dX8_left_12 (by decide) ?_
      refine g_icmp_lt (tgt := 21) C dX8_left_14 (by decide) (fun c14 => ?_) (fun c14 => ?_)
      · refine g_aload_n C dX8_left_21 rfl ?_
        refine g_getr (j := 153) C F8 (by rw [hw]; decide) rfl (by decide) 39 (by decide) rfl (hts (.fieldLink RX8 70 "FallBenchModel" "lookValue" "[I") (by decide +kernel)) rfl (hR (39, 153) (by decide)) dX8_left_22 ?_
        refine g_iload_n C dX8_left_25 rfl ?_
        refine g_iald C (by rw [hw]; decide) rfl (inOf (n := 40) (by decide) c8 (nlt_nle c14)) rfl dX8_left_26 ?_
        exact g_iret C Rr ⟨rfl, ⟨by simp only [if_neg c4, if_neg c8, if_pos c14], rfl⟩⟩ dX8_left_27
      · refine g_iconst (v := 0) C dX8_left_17 (by decide) ?_
        refine g_goto (tgt := 27) C dX8_left_18 (by decide) ?_
        exact g_iret C Rr ⟨rfl, ⟨by simp only [if_neg c4, if_neg c8, if_neg c14], rfl⟩⟩ dX8_left_27
