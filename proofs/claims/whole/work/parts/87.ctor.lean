/-! CONSTRUCTORS that make arrays alone -/
theorem hdX0_init : yX0_init.cls ≠ "java/lang/invoke/MethodHandle" ∧ yX0_init.cls ≠ "java/lang/invoke/VarHandle" ∧ (parseMethodDescriptor yX0_init.desc).map (fun d => d.parameters.length) = some 0 := by decide +kernel

theorem hdX1_init : yX1_init.cls ≠ "java/lang/invoke/MethodHandle" ∧ yX1_init.cls ≠ "java/lang/invoke/VarHandle" ∧ (parseMethodDescriptor yX1_init.desc).map (fun d => d.parameters.length) = some 0 := by decide +kernel

theorem hdX2_init : yX2_init.cls ≠ "java/lang/invoke/MethodHandle" ∧ yX2_init.cls ≠ "java/lang/invoke/VarHandle" ∧ (parseMethodDescriptor yX2_init.desc).map (fun d => d.parameters.length) = some 0 := by decide +kernel

theorem hdX3_init : yX3_init.cls ≠ "java/lang/invoke/MethodHandle" ∧ yX3_init.cls ≠ "java/lang/invoke/VarHandle" ∧ (parseMethodDescriptor yX3_init.desc).map (fun d => d.parameters.length) = some 1 := by decide +kernel

theorem hdX4_init : yX4_init.cls ≠ "java/lang/invoke/MethodHandle" ∧ yX4_init.cls ≠ "java/lang/invoke/VarHandle" ∧ (parseMethodDescriptor yX4_init.desc).map (fun d => d.parameters.length) = some 0 := by decide +kernel

theorem hdX5_init : yX5_init.cls ≠ "java/lang/invoke/MethodHandle" ∧ yX5_init.cls ≠ "java/lang/invoke/VarHandle" ∧ (parseMethodDescriptor yX5_init.desc).map (fun d => d.parameters.length) = some 0 := by decide +kernel

theorem hdX6_init : yX6_init.cls ≠ "java/lang/invoke/MethodHandle" ∧ yX6_init.cls ≠ "java/lang/invoke/VarHandle" ∧ (parseMethodDescriptor yX6_init.desc).map (fun d => d.parameters.length) = some 0 := by decide +kernel

theorem hdX7_init : yX7_init.cls ≠ "java/lang/invoke/MethodHandle" ∧ yX7_init.cls ≠ "java/lang/invoke/VarHandle" ∧ (parseMethodDescriptor yX7_init.desc).map (fun d => d.parameters.length) = some 0 := by decide +kernel

theorem hdX8_init : yX8_init.cls ≠ "java/lang/invoke/MethodHandle" ∧ yX8_init.cls ≠ "java/lang/invoke/VarHandle" ∧ (parseMethodDescriptor yX8_init.desc).map (fun d => d.parameters.length) = some 0 := by decide +kernel

set_option maxHeartbeats 4000000 in
set_option maxRecDepth 100000 in
theorem c_X0_init {l : Launch} {D : va_G} {w : gw} {M : Nat → Nat → Int32} {J : Nat → Nat → Int64} {R : Nat → Nat → Option Nat} {i : Nat} (hw : w.1 = i + 1) (fr : Fr i M J R) (hk : kd i = 0 ∧ kd (i + 1) = 9 ∧ kd (i + 2) = 9 ∧ kd (i + 3) = 9 ∧ kd (i + 4) = 9 ∧ ln (i + 1) = 40 ∧ ln (i + 2) = 40 ∧ ln (i + 3) = 40 ∧ ln (i + 4) = 40) : Cg l yX0_init wsX0_init ({ frames := 1, cells := 4, slots := 160, locals := 12 } : Room) D w [.ref (w.2.1 i)] (M, J, R) 4 160 (fun v w' u => v = none ∧ gle w w' ∧ w'.1 = i + 5 ∧ Fr (i + 5) u.1 u.2.1 u.2.2 ∧ u = ((up2 (up2 (up2 (up2 (up2 (up2 (up2 (up2 (up2 M i 4 0) i 5 0) i 6 0) i 7 (-1)) i 8 (-1)) i 9 0) i 10 (-1)) i 11 0) i 12 0), J, (up2 (up2 (up2 (up2 R i 0 (some (i + 1))) i 1 (some (i + 2))) i 2 (some (i + 3))) i 3 (some (i + 4))))) := by
  have fr := fr.mono (m := i + 1) (by omega)
  refine Cg.of (own := RX0) (cc := cX0_init) (maxL := 1) (ret := none) 0 (by decide) rfl rfl (Nat.le_of_ble_eq_true rfl) (fun X C hts V Rr => ?_)
  have F0 : FW X 0 := fun q h => hts q (List.mem_cons_of_mem _ (List.mem_append_right _ h))
  show Gj X 0 0 w M J R 0 [some (.ref (w.2.1 i))] []
  refine g_aload_n C dX0_init_0 rfl ?_
  refine g_objInit C V (hts (.methodLink RX0 3 objectInit) (by decide +kernel)) (hts (.instanceMethod objectInit) (by decide +kernel)) (hts (.code objectInit ⟨#[0xb1]⟩ 1 none) (by decide +kernel)) (by decide) dX0_init_1 ?_
  refine g_aload_n C dX0_init_4 rfl ?_
  refine g_bipush (v := 40) C dX0_init_5 (by decide) ?_
  refine g_newa (at9 := .int) (N := 40) C V (Or.inl ⟨(by rw [hw]; exact hk.2.1), rfl⟩) (by rw [hw]; exact hk.2.2.2.2.2.1) (by rw [hw]; exact fr) (hts (.arrayClass .int) (by decide +kernel)) (by decide) (by decide) (by decide) (by decide) dX0_init_7 (fun w_1 e_1 n_1 => ?_)
  rw [hw] at n_1
  rw [← e_1.2 i (by rw [hw]; omega)]
  rw [hw]
  have fr := fr.mono (m := i + 2) (by omega)
  refine g_putF (i := i) (j := i + 1) C V F0 (by rw [n_1]; omega) hk.1 (by decide) 0 (by decide) rfl (hts (.fieldLink RX0 9 "FallBench$Machine" "values" "[I") (by decide +kernel)) rfl rfl rfl rfl rfl dX0_init_9 ?_
  have fr := Fr.uR (i := i) (k := 0) (j := i + 1) fr (by omega) (by omega)
  refine g_aload_n C dX0_init_12 rfl ?_
  refine g_bipush (v := 40) C dX0_init_13 (by decide) ?_
  refine g_newa (at9 := .int) (N := 40) C V (Or.inl ⟨(by rw [n_1]; exact hk.2.2.1), rfl⟩) (by rw [n_1]; exact hk.2.2.2.2.2.2.1) (by rw [n_1]; exact fr) (hts (.arrayClass .int) (by decide +kernel)) (by decide) (by decide) (by decide) (by decide) dX0_init_15 (fun w_2 e_2 n_2 => ?_)
  rw [n_1] at n_2
  rw [← e_2.2 i (by rw [n_1]; omega)]
  rw [n_1]
  have fr := fr.mono (m := i + 3) (by omega)
  refine g_putF (i := i) (j := i + 2) C V F0 (by rw [n_2]; omega) hk.1 (by decide) 1 (by decide) rfl (hts (.fieldLink RX0 15 "FallBench$Machine" "makers" "[I") (by decide +kernel)) rfl rfl rfl rfl rfl dX0_init_17 ?_
  have fr := Fr.uR (i := i) (k := 1) (j := i + 2) fr (by omega) (by omega)
  refine g_aload_n C dX0_init_20 rfl ?_
  refine g_bipush (v := 40) C dX0_init_21 (by decide) ?_
  refine g_newa (at9 := .int) (N := 40) C V (Or.inl ⟨(by rw [n_2]; exact hk.2.2.2.1), rfl⟩) (by rw [n_2]; exact hk.2.2.2.2.2.2.2.1) (by rw [n_2]; exact fr) (hts (.arrayClass .int) (by decide +kernel)) (by decide) (by decide) (by decide) (by decide) dX0_init_23 (fun w_3 e_3 n_3 => ?_)
  rw [n_2] at n_3
  rw [← e_3.2 i (by rw [n_2]; omega)]
  rw [n_2]
  have fr := fr.mono (m := i + 4) (by omega)
  refine g_putF (i := i) (j := i + 3) C V F0 (by rw [n_3]; omega) hk.1 (by decide) 2 (by decide) rfl (hts (.fieldLink RX0 18 "FallBench$Machine" "bytes" "[I") (by decide +kernel)) rfl rfl rfl rfl rfl dX0_init_25 ?_
  have fr := Fr.uR (i := i) (k := 2) (j := i + 3) fr (by omega) (by omega)
  refine g_aload_n C dX0_init_28 rfl ?_
  refine g_bipush (v := 40) C dX0_init_29 (by decide) ?_
  refine g_newa (at9 := .int) (N := 40) C V (Or.inl ⟨(by rw [n_3]; exact hk.2.2.2.2.1), rfl⟩) (by rw [n_3]; exact hk.2.2.2.2.2.2.2.2) (by rw [n_3]; exact fr) (hts (.arrayClass .int) (by decide +kernel)) (by decide) (by decide) (by decide) (by decide) dX0_init_31 (fun w_4 e_4 n_4 => ?_)
  rw [n_3] at n_4
  rw [← e_4.2 i (by rw [n_3]; omega)]
  rw [n_3]
  have fr := fr.mono (m := i + 5) (by omega)
  refine g_putF (i := i) (j := i + 4) C V F0 (by rw [n_4]; omega) hk.1 (by decide) 3 (by decide) rfl (hts (.fieldLink RX0 21 "FallBench$Machine" "toldValues" "[I") (by decide +kernel)) rfl rfl rfl rfl rfl dX0_init_33 ?_
  have fr := Fr.uR (i := i) (k := 3) (j := i + 4) fr (by omega) (by omega)
  refine g_aload_n C dX0_init_36 rfl ?_
  refine g_iconst (v := 0) C dX0_init_37 (by decide) ?_
  refine g_puti (i := i) C F0 (by rw [n_4]; omega) hk.1 (by decide) 4 (by decide) rfl (hts (.fieldLink RX0 24 "FallBench$Machine" "toldCount" "I") (by decide +kernel)) rfl rfl rfl rfl dX0_init_38 ?_
  have fr := Fr.uM (i := i) (k := 4) (v := 0) fr (by omega)
  refine g_aload_n C dX0_init_41 rfl ?_
  refine g_iconst (v := 0) C dX0_init_42 (by decide) ?_
  refine g_puti (i := i) C F0 (by rw [n_4]; omega) hk.1 (by decide) 5 (by decide) rfl (hts (.fieldLink RX0 28 "FallBench$Machine" "readCount" "I") (by decide +kernel)) rfl rfl rfl rfl dX0_init_43 ?_
  have fr := Fr.uM (i := i) (k := 5) (v := 0) fr (by omega)
  refine g_aload_n C dX0_init_46 rfl ?_
  refine g_iconst (v := 0) C dX0_init_47 (by decide) ?_
  refine g_puti (i := i) C F0 (by rw [n_4]; omega) hk.1 (by decide) 6 (by decide) rfl (hts (.fieldLink RX0 31 "FallBench$Machine" "steps" "I") (by decide +kernel)) rfl rfl rfl rfl dX0_init_48 ?_
  have fr := Fr.uM (i := i) (k := 6) (v := 0) fr (by omega)
  refine g_aload_n C dX0_init_51 rfl ?_
  refine g_iconst (v := (-1)) C dX0_init_52 (by decide) ?_
  refine g_puti (i := i) C F0 (by rw [n_4]; omega) hk.1 (by decide) 7 (by decide) rfl (hts (.fieldLink RX0 34 "FallBench$Machine" "ended" "I") (by decide +kernel)) rfl rfl rfl rfl dX0_init_53 ?_
  have fr := Fr.uM (i := i) (k := 7) (v := (-1)) fr (by omega)
  refine g_aload_n C dX0_init_56 rfl ?_
  refine g_iconst (v := (-1)) C dX0_init_57 (by decide) ?_
  refine g_puti (i := i) C F0 (by rw [n_4]; omega) hk.1 (by decide) 8 (by decide) rfl (hts (.fieldLink RX0 37 "FallBench$Machine" "endAct" "I") (by decide +kernel)) rfl rfl rfl rfl dX0_init_58 ?_
  have fr := Fr.uM (i := i) (k := 8) (v := (-1)) fr (by omega)
  refine g_aload_n C dX0_init_61 rfl ?_
  refine g_iconst (v := 0) C dX0_init_62 (by decide) ?_
  refine g_puti (i := i) C F0 (by rw [n_4]; omega) hk.1 (by decide) 9 (by decide) rfl (hts (.fieldLink RX0 40 "FallBench$Machine" "wrong" "I") (by decide +kernel)) rfl rfl rfl rfl dX0_init_63 ?_
  have fr := Fr.uM (i := i) (k := 9) (v := 0) fr (by omega)
  refine g_aload_n C dX0_init_66 rfl ?_
  refine g_iconst (v := (-1)) C dX0_init_67 (by decide) ?_
  refine g_puti (i := i) C F0 (by rw [n_4]; omega) hk.1 (by decide) 10 (by decide) rfl (hts (.fieldLink RX0 43 "FallBench$Machine" "wrongMaker" "I") (by decide +kernel)) rfl rfl rfl rfl dX0_init_68 ?_
  have fr := Fr.uM (i := i) (k := 10) (v := (-1)) fr (by omega)
  refine g_aload_n C dX0_init_71 rfl ?_
  refine g_iconst (v := 0) C dX0_init_72 (by decide) ?_
  refine g_puti (i := i) C F0 (by rw [n_4]; omega) hk.1 (by decide) 11 (by decide) rfl (hts (.fieldLink RX0 46 "FallBench$Machine" "wrongBytes" "I") (by decide +kernel)) rfl rfl rfl rfl dX0_init_73 ?_
  have fr := Fr.uM (i := i) (k := 11) (v := 0) fr (by omega)
  refine g_aload_n C dX0_init_76 rfl ?_
  refine g_iconst (v := 0) C dX0_init_77 (by decide) ?_
  refine g_puti (i := i) C F0 (by rw [n_4]; omega) hk.1 (by decide) 12 (by decide) rfl (hts (.fieldLink RX0 49 "FallBench$Machine" "next" "I") (by decide +kernel)) rfl rfl rfl rfl dX0_init_78 ?_
  have fr := Fr.uM (i := i) (k := 12) (v := 0) fr (by omega)
  exact g_vret C Rr ⟨rfl, (((((gle.rf w).tr e_1).tr e_2).tr e_3).tr e_4), n_4, fr, rfl⟩ dX0_init_81

set_option maxHeartbeats 4000000 in
set_option maxRecDepth 100000 in
theorem c_X2_init {l : Launch} {D : va_G} {w : gw} {M : Nat → Nat → Int32} {J : Nat → Nat → Int64} {R : Nat → Nat → Option Nat} {i : Nat} (hw : w.1 = i + 1) (fr : Fr i M J R) (hk : kd i = 2 ∧ kd (i + 1) = 9 ∧ kd (i + 2) = 9 ∧ kd (i + 3) = 9 ∧ kd (i + 4) = 9 ∧ ln (i + 1) = 80 ∧ ln (i + 2) = 80 ∧ ln (i + 3) = 80 ∧ ln (i + 4) = 80) : Cg l yX2_init wsX2_init ({ frames := 1, cells := 4, slots := 320, locals := 12 } : Room) D w [.ref (w.2.1 i)] (M, J, R) 4 320 (fun v w' u => v = none ∧ gle w w' ∧ w'.1 = i + 5 ∧ Fr (i + 5) u.1 u.2.1 u.2.2 ∧ u = ((up2 M i 4 0), J, (up2 (up2 (up2 (up2 R i 0 (some (i + 1))) i 1 (some (i + 2))) i 2 (some (i + 3))) i 3 (some (i + 4))))) := by
  have fr := fr.mono (m := i + 1) (by omega)
  refine Cg.of (own := RX2) (cc := cX2_init) (maxL := 1) (ret := none) 0 (by decide) rfl rfl (Nat.le_of_ble_eq_true rfl) (fun X C hts V Rr => ?_)
  have F2 : FW X 2 := fun q h => hts q (List.mem_cons_of_mem _ (List.mem_append_right _ h))
  show Gj X 0 0 w M J R 0 [some (.ref (w.2.1 i))] []
  refine g_aload_n C dX2_init_0 rfl ?_
  refine g_objInit C V (hts (.methodLink RX2 3 objectInit) (by decide +kernel)) (hts (.instanceMethod objectInit) (by decide +kernel)) (hts (.code objectInit ⟨#[0xb1]⟩ 1 none) (by decide +kernel)) (by decide) dX2_init_1 ?_
  refine g_aload_n C dX2_init_4 rfl ?_
  refine g_bipush (v := 80) C dX2_init_5 (by decide) ?_
  refine g_newa (at9 := .int) (N := 80) C V (Or.inl ⟨(by rw [hw]; exact hk.2.1), rfl⟩) (by rw [hw]; exact hk.2.2.2.2.2.1) (by rw [hw]; exact fr) (hts (.arrayClass .int) (by decide +kernel)) (by decide) (by decide) (by decide) (by decide) dX2_init_7 (fun w_1 e_1 n_1 => ?_)
  rw [hw] at n_1
  rw [← e_1.2 i (by rw [hw]; omega)]
  rw [hw]
  have fr := fr.mono (m := i + 2) (by omega)
  refine g_putF (i := i) (j := i + 1) C V F2 (by rw [n_1]; omega) hk.1 (by decide) 0 (by decide) rfl (hts (.fieldLink RX2 9 "FallBench$Program" "kinds" "[I") (by decide +kernel)) rfl rfl rfl rfl rfl dX2_init_9 ?_
  have fr := Fr.uR (i := i) (k := 0) (j := i + 1) fr (by omega) (by omega)
  refine g_aload_n C dX2_init_12 rfl ?_
  refine g_bipush (v := 80) C dX2_init_13 (by decide) ?_
  refine g_newa (at9 := .int) (N := 80) C V (Or.inl ⟨(by rw [n_1]; exact hk.2.2.1), rfl⟩) (by rw [n_1]; exact hk.2.2.2.2.2.2.1) (by rw [n_1]; exact fr) (hts (.arrayClass .int) (by decide +kernel)) (by decide) (by decide) (by decide) (by decide) dX2_init_15 (fun w_2 e_2 n_2 => ?_)
  rw [n_1] at n_2
  rw [← e_2.2 i (by rw [n_1]; omega)]
  rw [n_1]
  have fr := fr.mono (m := i + 3) (by omega)
  refine g_putF (i := i) (j := i + 2) C V F2 (by rw [n_2]; omega) hk.1 (by decide) 1 (by decide) rfl (hts (.fieldLink RX2 15 "FallBench$Program" "firsts" "[I") (by decide +kernel)) rfl rfl rfl rfl rfl dX2_init_17 ?_
  have fr := Fr.uR (i := i) (k := 1) (j := i + 2) fr (by omega) (by omega)
  refine g_aload_n C dX2_init_20 rfl ?_
  refine g_bipush (v := 80) C dX2_init_21 (by decide) ?_
  refine g_newa (at9 := .int) (N := 80) C V (Or.inl ⟨(by rw [n_2]; exact hk.2.2.2.1), rfl⟩) (by rw [n_2]; exact hk.2.2.2.2.2.2.2.1) (by rw [n_2]; exact fr) (hts (.arrayClass .int) (by decide +kernel)) (by decide) (by decide) (by decide) (by decide) dX2_init_23 (fun w_3 e_3 n_3 => ?_)
  rw [n_2] at n_3
  rw [← e_3.2 i (by rw [n_2]; omega)]
  rw [n_2]
  have fr := fr.mono (m := i + 4) (by omega)
  refine g_putF (i := i) (j := i + 3) C V F2 (by rw [n_3]; omega) hk.1 (by decide) 2 (by decide) rfl (hts (.fieldLink RX2 18 "FallBench$Program" "seconds" "[I") (by decide +kernel)) rfl rfl rfl rfl rfl dX2_init_25 ?_
  have fr := Fr.uR (i := i) (k := 2) (j := i + 3) fr (by omega) (by omega)
  refine g_aload_n C dX2_init_28 rfl ?_
  refine g_bipush (v := 80) C dX2_init_29 (by decide) ?_
  refine g_newa (at9 := .int) (N := 80) C V (Or.inl ⟨(by rw [n_3]; exact hk.2.2.2.2.1), rfl⟩) (by rw [n_3]; exact hk.2.2.2.2.2.2.2.2) (by rw [n_3]; exact fr) (hts (.arrayClass .int) (by decide +kernel)) (by decide) (by decide) (by decide) (by decide) dX2_init_31 (fun w_4 e_4 n_4 => ?_)
  rw [n_3] at n_4
  rw [← e_4.2 i (by rw [n_3]; omega)]
  rw [n_3]
  have fr := fr.mono (m := i + 5) (by omega)
  refine g_putF (i := i) (j := i + 4) C V F2 (by rw [n_4]; omega) hk.1 (by decide) 3 (by decide) rfl (hts (.fieldLink RX2 21 "FallBench$Program" "numbers" "[I") (by decide +kernel)) rfl rfl rfl rfl rfl dX2_init_33 ?_
  have fr := Fr.uR (i := i) (k := 3) (j := i + 4) fr (by omega) (by omega)
  refine g_aload_n C dX2_init_36 rfl ?_
  refine g_iconst (v := 0) C dX2_init_37 (by decide) ?_
  refine g_puti (i := i) C F2 (by rw [n_4]; omega) hk.1 (by decide) 4 (by decide) rfl (hts (.fieldLink RX2 24 "FallBench$Program" "count" "I") (by decide +kernel)) rfl rfl rfl rfl dX2_init_38 ?_
  have fr := Fr.uM (i := i) (k := 4) (v := 0) fr (by omega)
  exact g_vret C Rr ⟨rfl, (((((gle.rf w).tr e_1).tr e_2).tr e_3).tr e_4), n_4, fr, rfl⟩ dX2_init_41

set_option maxHeartbeats 4000000 in
set_option maxRecDepth 100000 in
theorem c_X3_init_1000 {l : Launch} {D : va_G} {w : gw} {M : Nat → Nat → Int32} {J : Nat → Nat → Int64} {R : Nat → Nat → Option Nat} {i : Nat} (hw : w.1 = i + 1) (fr : Fr i M J R) (hk : kd i = 3 ∧ kd (i + 1) = 9 ∧ ln (i + 1) = 1000) : Cg l yX3_init wsX3_init ({ frames := 1, cells := 1, slots := 1000, locals := 21 } : Room) D w [.ref (w.2.1 i), .int 1000] (M, J, R) 1 1000 (fun v w' u => v = none ∧ gle w w' ∧ w'.1 = i + 2 ∧ Fr (i + 2) u.1 u.2.1 u.2.2 ∧ u = ((up2 M i 1 0), J, (up2 R i 0 (some (i + 1))))) := by
  have fr := fr.mono (m := i + 1) (by omega)
  refine Cg.of (own := RX3) (cc := cX3_init) (maxL := 2) (ret := none) 0 (by decide) rfl rfl (Nat.le_of_ble_eq_true rfl) (fun X C hts V Rr => ?_)
  have F3 : FW X 3 := fun q h => hts q (List.mem_cons_of_mem _ (List.mem_append_right _ h))
  show Gj X 0 0 w M J R 0 [some (.ref (w.2.1 i)), some (.int 1000)] []
  refine g_aload_n C dX3_init_0 rfl ?_
  refine g_objInit C V (hts (.methodLink RX3 3 objectInit) (by decide +kernel)) (hts (.instanceMethod objectInit) (by decide +kernel)) (hts (.code objectInit ⟨#[0xb1]⟩ 1 none) (by decide +kernel)) (by decide) dX3_init_1 ?_
  refine g_aload_n C dX3_init_4 rfl ?_
  refine g_iconst (v := 0) C dX3_init_5 (by decide) ?_
  refine g_puti (i := i) C F3 (by rw [hw]; omega) hk.1 (by decide) 1 (by decide) rfl (hts (.fieldLink RX3 9 "FallBench$Row" "length" "I") (by decide +kernel)) rfl rfl rfl rfl dX3_init_6 ?_
  have fr := Fr.uM (i := i) (k := 1) (v := 0) fr (by omega)
  refine g_aload_n C dX3_init_9 rfl ?_
  refine g_iload_n C dX3_init_10 rfl ?_
  refine g_iconst (v := 0) C dX3_init_11 (by decide) ?_
  refine g_mmax (v := 1000) C V (hts (.methodLink RX3 15 Lib.Math.max.name) (by decide +kernel)) (hts (.static Lib.Math.max.name) (by decide +kernel)) (hts (.initialized "java/lang/Math") (by decide +kernel)) (hts (.code Lib.Math.max.name Lib.Math.max.code 2 (some .int)) (by decide +kernel)) ⟨by decide, Nat.le_of_ble_eq_true rfl, by decide, by decide⟩ (if_neg (by decide)) dX3_init_12 ?_
  refine g_newa (at9 := .int) (N := 1000) C V (Or.inl ⟨(by rw [hw]; exact hk.2.1), rfl⟩) (by rw [hw]; exact hk.2.2) (by rw [hw]; exact fr) (hts (.arrayClass .int) (by decide +kernel)) (by decide) (by decide) (by decide) (by decide) dX3_init_15 (fun w_1 e_1 n_1 => ?_)
  rw [hw] at n_1
  rw [← e_1.2 i (by rw [hw]; omega)]
  rw [hw]
  have fr := fr.mono (m := i + 2) (by omega)
  refine g_putF (i := i) (j := i + 1) C V F3 (by rw [n_1]; omega) hk.1 (by decide) 0 (by decide) rfl (hts (.fieldLink RX3 21 "FallBench$Row" "bytes" "[I") (by decide +kernel)) rfl rfl rfl rfl rfl dX3_init_17 ?_
  have fr := Fr.uR (i := i) (k := 0) (j := i + 1) fr (by omega) (by omega)
  exact g_vret C Rr ⟨rfl, ((gle.rf w).tr e_1), n_1, fr, rfl⟩ dX3_init_20

set_option maxHeartbeats 4000000 in
set_option maxRecDepth 100000 in
theorem c_X3_init_24 {l : Launch} {D : va_G} {w : gw} {M : Nat → Nat → Int32} {J : Nat → Nat → Int64} {R : Nat → Nat → Option Nat} {i : Nat} (hw : w.1 = i + 1) (fr : Fr i M J R) (hk : kd i = 3 ∧ kd (i + 1) = 9 ∧ ln (i + 1) = 24) : Cg l yX3_init wsX3_init ({ frames := 1, cells := 1, slots := 24, locals := 21 } : Room) D w [.ref (w.2.1 i), .int 24] (M, J, R) 1 24 (fun v w' u => v = none ∧ gle w w' ∧ w'.1 = i + 2 ∧ Fr (i + 2) u.1 u.2.1 u.2.2 ∧ u = ((up2 M i 1 0), J, (up2 R i 0 (some (i + 1))))) := by
  have fr := fr.mono (m := i + 1) (by omega)
  refine Cg.of (own := RX3) (cc := cX3_init) (maxL := 2) (ret := none) 0 (by decide) rfl rfl (Nat.le_of_ble_eq_true rfl) (fun X C hts V Rr => ?_)
  have F3 : FW X 3 := fun q h => hts q (List.mem_cons_of_mem _ (List.mem_append_right _ h))
  show Gj X 0 0 w M J R 0 [some (.ref (w.2.1 i)), some (.int 24)] []
  refine g_aload_n C dX3_init_0 rfl ?_
  refine g_objInit C V (hts (.methodLink RX3 3 objectInit) (by decide +kernel)) (hts (.instanceMethod objectInit) (by decide +kernel)) (hts (.code objectInit ⟨#[0xb1]⟩ 1 none) (by decide +kernel)) (by decide) dX3_init_1 ?_
  refine g_aload_n C dX3_init_4 rfl ?_
  refine g_iconst (v := 0) C dX3_init_5 (by decide) ?_
  refine g_puti (i := i) C F3 (by rw [hw]; omega) hk.1 (by decide) 1 (by decide) rfl (hts (.fieldLink RX3 9 "FallBench$Row" "length" "I") (by decide +kernel)) rfl rfl rfl rfl dX3_init_6 ?_
  have fr := Fr.uM (i := i) (k := 1) (v := 0) fr (by omega)
  refine g_aload_n C dX3_init_9 rfl ?_
  refine g_iload_n C dX3_init_10 rfl ?_
  refine g_iconst (v := 0) C dX3_init_11 (by decide) ?_
  refine g_mmax (v := 24) C V (hts (.methodLink RX3 15 Lib.Math.max.name) (by decide +kernel)) (hts (.static Lib.Math.max.name) (by decide +kernel)) (hts (.initialized "java/lang/Math") (by decide +kernel)) (hts (.code Lib.Math.max.name Lib.Math.max.code 2 (some .int)) (by decide +kernel)) ⟨by decide, Nat.le_of_ble_eq_true rfl, by decide, by decide⟩ (if_neg (by decide)) dX3_init_12 ?_
  refine g_newa (at9 := .int) (N := 24) C V (Or.inl ⟨(by rw [hw]; exact hk.2.1), rfl⟩) (by rw [hw]; exact hk.2.2) (by rw [hw]; exact fr) (hts (.arrayClass .int) (by decide +kernel)) (by decide) (by decide) (by decide) (by decide) dX3_init_15 (fun w_1 e_1 n_1 => ?_)
  rw [hw] at n_1
  rw [← e_1.2 i (by rw [hw]; omega)]
  rw [hw]
  have fr := fr.mono (m := i + 2) (by omega)
  refine g_putF (i := i) (j := i + 1) C V F3 (by rw [n_1]; omega) hk.1 (by decide) 0 (by decide) rfl (hts (.fieldLink RX3 21 "FallBench$Row" "bytes" "[I") (by decide +kernel)) rfl rfl rfl rfl rfl dX3_init_17 ?_
  have fr := Fr.uR (i := i) (k := 0) (j := i + 1) fr (by omega) (by omega)
  exact g_vret C Rr ⟨rfl, ((gle.rf w).tr e_1), n_1, fr, rfl⟩ dX3_init_20
