/-! CONSTRUCTORS of the sorter, the tokens, the trier -/
theorem gN_X6_35 {U : State} (h : gNest U) : va_Nw (.methodLinkNest RX6 35 yX0_init RX7) U := h.2.2.2.2.2.2.1
set_option maxHeartbeats 4000000 in
set_option maxRecDepth 100000 in
theorem c_X4_init {l : Launch} {D : va_G} {w : gw} {M : Nat → Nat → Int32} {J : Nat → Nat → Int64} {R : Nat → Nat → Option Nat} (hw : w.1 = 36) (fr : Fr 35 M J R) : Cg l yX4_init wsX4_init ({ frames := 1, cells := 6, slots := 180, locals := 12 } : Room) D w [.ref (w.2.1 35)] (M, J, R) 6 180 (fun v w' u => v = none ∧ gle w w' ∧ w'.1 = 42 ∧ Fr (42) u.1 u.2.1 u.2.2 ∧ u = ((up2 M 35 6 0), J, (up2 (up2 (up2 (up2 (up2 (up2 R 35 0 (some 36)) 35 1 (some 37)) 35 2 (some 38)) 35 3 (some 39)) 35 4 (some 40)) 35 5 (some 41)))) := by
  have fr := fr.mono (m := 36) (by omega)
  refine Cg.of (own := RX4) (cc := cX4_init) (maxL := 1) (ret := none) 0 (by decide) rfl rfl (Nat.le_of_ble_eq_true rfl) (fun X C hts V Rr => ?_)
  have F4 : FW X 4 := fun q h => hts q (List.mem_cons_of_mem _ (List.mem_append_right _ h))
  show Gj X 0 0 w M J R 0 [some (.ref (w.2.1 35))] []
  refine g_aload_n C dX4_init_0 rfl ?_
  refine g_objInit C V (hts (.methodLink RX4 3 objectInit) (by decide +kernel)) (hts (.instanceMethod objectInit) (by decide +kernel)) (hts (.code objectInit ⟨#[0xb1]⟩ 1 none) (by decide +kernel)) (by decide) dX4_init_1 ?_
  refine g_aload_n C dX4_init_4 rfl ?_
  refine g_bipush (v := 30) C dX4_init_5 (by decide) ?_
  refine g_newa (at9 := .int) (N := 30) C V (Or.inl ⟨(by rw [hw]; exact rfl), rfl⟩) (by rw [hw]; exact rfl) (by rw [hw]; exact fr) (hts (.arrayClass .int) (by decide +kernel)) (by decide) (by decide) (by decide) (by decide) dX4_init_7 (fun w_1 e_1 n_1 => ?_)
  rw [hw] at n_1
  rw [← e_1.2 35 (by rw [hw]; omega)]
  rw [hw]
  have fr := fr.mono (m := 37) (by omega)
  refine g_putF (i := 35) (j := 36) C V F4 (by rw [n_1]; omega) rfl (by decide) 0 (by decide) rfl (hts (.fieldLink RX4 9 "FallBench$Sorter" "leasts" "[I") (by decide +kernel)) rfl rfl rfl rfl rfl dX4_init_9 ?_
  have fr := Fr.uR (i := 35) (k := 0) (j := 36) fr (by omega) (by omega)
  refine g_aload_n C dX4_init_12 rfl ?_
  refine g_bipush (v := 30) C dX4_init_13 (by decide) ?_
  refine g_newa (at9 := .int) (N := 30) C V (Or.inl ⟨(by rw [n_1]; exact rfl), rfl⟩) (by rw [n_1]; exact rfl) (by rw [n_1]; exact fr) (hts (.arrayClass .int) (by decide +kernel)) (by decide) (by decide) (by decide) (by decide) dX4_init_15 (fun w_2 e_2 n_2 => ?_)
  rw [n_1] at n_2
  rw [← e_2.2 35 (by rw [n_1]; omega)]
  rw [n_1]
  have fr := fr.mono (m := 38) (by omega)
  refine g_putF (i := 35) (j := 37) C V F4 (by rw [n_2]; omega) rfl (by decide) 1 (by decide) rfl (hts (.fieldLink RX4 15 "FallBench$Sorter" "sizes" "[I") (by decide +kernel)) rfl rfl rfl rfl rfl dX4_init_17 ?_
  have fr := Fr.uR (i := 35) (k := 1) (j := 37) fr (by omega) (by omega)
  refine g_aload_n C dX4_init_20 rfl ?_
  refine g_bipush (v := 30) C dX4_init_21 (by decide) ?_
  refine g_newa (at9 := .int) (N := 30) C V (Or.inl ⟨(by rw [n_2]; exact rfl), rfl⟩) (by rw [n_2]; exact rfl) (by rw [n_2]; exact fr) (hts (.arrayClass .int) (by decide +kernel)) (by decide) (by decide) (by decide) (by decide) dX4_init_23 (fun w_3 e_3 n_3 => ?_)
  rw [n_2] at n_3
  rw [← e_3.2 35 (by rw [n_2]; omega)]
  rw [n_2]
  have fr := fr.mono (m := 39) (by omega)
  refine g_putF (i := 35) (j := 38) C V F4 (by rw [n_3]; omega) rfl (by decide) 2 (by decide) rfl (hts (.fieldLink RX4 18 "FallBench$Sorter" "ends" "[I") (by decide +kernel)) rfl rfl rfl rfl rfl dX4_init_25 ?_
  have fr := Fr.uR (i := 35) (k := 2) (j := 38) fr (by omega) (by omega)
  refine g_aload_n C dX4_init_28 rfl ?_
  refine g_bipush (v := 30) C dX4_init_29 (by decide) ?_
  refine g_newa (at9 := .int) (N := 30) C V (Or.inl ⟨(by rw [n_3]; exact rfl), rfl⟩) (by rw [n_3]; exact rfl) (by rw [n_3]; exact fr) (hts (.arrayClass .int) (by decide +kernel)) (by decide) (by decide) (by decide) (by decide) dX4_init_31 (fun w_4 e_4 n_4 => ?_)
  rw [n_3] at n_4
  rw [← e_4.2 35 (by rw [n_3]; omega)]
  rw [n_3]
  have fr := fr.mono (m := 40) (by omega)
  refine g_putF (i := 35) (j := 39) C V F4 (by rw [n_4]; omega) rfl (by decide) 3 (by decide) rfl (hts (.fieldLink RX4 21 "FallBench$Sorter" "acts" "[I") (by decide +kernel)) rfl rfl rfl rfl rfl dX4_init_33 ?_
  have fr := Fr.uR (i := 35) (k := 3) (j := 39) fr (by omega) (by omega)
  refine g_aload_n C dX4_init_36 rfl ?_
  refine g_bipush (v := 30) C dX4_init_37 (by decide) ?_
  refine g_newa (at9 := .int) (N := 30) C V (Or.inl ⟨(by rw [n_4]; exact rfl), rfl⟩) (by rw [n_4]; exact rfl) (by rw [n_4]; exact fr) (hts (.arrayClass .int) (by decide +kernel)) (by decide) (by decide) (by decide) (by decide) dX4_init_39 (fun w_5 e_5 n_5 => ?_)
  rw [n_4] at n_5
  rw [← e_5.2 35 (by rw [n_4]; omega)]
  rw [n_4]
  have fr := fr.mono (m := 41) (by omega)
  refine g_putF (i := 35) (j := 40) C V F4 (by rw [n_5]; omega) rfl (by decide) 4 (by decide) rfl (hts (.fieldLink RX4 24 "FallBench$Sorter" "makers" "[I") (by decide +kernel)) rfl rfl rfl rfl rfl dX4_init_41 ?_
  have fr := Fr.uR (i := 35) (k := 4) (j := 40) fr (by omega) (by omega)
  refine g_aload_n C dX4_init_44 rfl ?_
  refine g_bipush (v := 30) C dX4_init_45 (by decide) ?_
  refine g_newa (at9 := .int) (N := 30) C V (Or.inl ⟨(by rw [n_5]; exact rfl), rfl⟩) (by rw [n_5]; exact rfl) (by rw [n_5]; exact fr) (hts (.arrayClass .int) (by decide +kernel)) (by decide) (by decide) (by decide) (by decide) dX4_init_47 (fun w_6 e_6 n_6 => ?_)
  rw [n_5] at n_6
  rw [← e_6.2 35 (by rw [n_5]; omega)]
  rw [n_5]
  have fr := fr.mono (m := 42) (by omega)
  refine g_putF (i := 35) (j := 41) C V F4 (by rw [n_6]; omega) rfl (by decide) 5 (by decide) rfl (hts (.fieldLink RX4 27 "FallBench$Sorter" "heapOfInput" "[I") (by decide +kernel)) rfl rfl rfl rfl rfl dX4_init_49 ?_
  have fr := Fr.uR (i := 35) (k := 5) (j := 41) fr (by omega) (by omega)
  refine g_aload_n C dX4_init_52 rfl ?_
  refine g_iconst (v := 0) C dX4_init_53 (by decide) ?_
  refine g_puti (i := 35) C F4 (by rw [n_6]; omega) rfl (by decide) 6 (by decide) rfl (hts (.fieldLink RX4 30 "FallBench$Sorter" "count" "I") (by decide +kernel)) rfl rfl rfl rfl dX4_init_54 ?_
  have fr := Fr.uM (i := 35) (k := 6) (v := 0) fr (by omega)
  exact g_vret C Rr ⟨rfl, (((((((gle.rf w).tr e_1).tr e_2).tr e_3).tr e_4).tr e_5).tr e_6), n_6, fr, rfl⟩ dX4_init_57

set_option maxHeartbeats 4000000 in
set_option maxRecDepth 100000 in
theorem c_X5_init {l : Launch} {D : va_G} {w : gw} {M : Nat → Nat → Int32} {J : Nat → Nat → Int64} {R : Nat → Nat → Option Nat} (hw : w.1 = 6) (fr : Fr 5 M J R) : Cg l yX5_init wsX5_init ({ frames := 1, cells := 3, slots := 3003, locals := 12 } : Room) D w [.ref (w.2.1 5)] (M, J, R) 3 3003 (fun v w' u => v = none ∧ gle w w' ∧ w'.1 = 9 ∧ Fr (9) u.1 u.2.1 u.2.2 ∧ u = ((up2 M 5 3 0), J, (up2 (up2 (up2 R 5 0 (some 6)) 5 1 (some 7)) 5 2 (some 8)))) := by
  have fr := fr.mono (m := 6) (by omega)
  refine Cg.of (own := RX5) (cc := cX5_init) (maxL := 1) (ret := none) 0 (by decide) rfl rfl (Nat.le_of_ble_eq_true rfl) (fun X C hts V Rr => ?_)
  have F5 : FW X 5 := fun q h => hts q (List.mem_cons_of_mem _ (List.mem_append_right _ h))
  show Gj X 0 0 w M J R 0 [some (.ref (w.2.1 5))] []
  refine g_aload_n C dX5_init_0 rfl ?_
  refine g_objInit C V (hts (.methodLink RX5 3 objectInit) (by decide +kernel)) (hts (.instanceMethod objectInit) (by decide +kernel)) (hts (.code objectInit ⟨#[0xb1]⟩ 1 none) (by decide +kernel)) (by decide) dX5_init_1 ?_
  refine g_aload_n C dX5_init_4 rfl ?_
  refine g_sipush (v := 1001) C dX5_init_5 (by decide) ?_
  refine g_newa (at9 := .int) (N := 1001) C V (Or.inl ⟨(by rw [hw]; exact rfl), rfl⟩) (by rw [hw]; exact rfl) (by rw [hw]; exact fr) (hts (.arrayClass .int) (by decide +kernel)) (by decide) (by decide) (by decide) (by decide) dX5_init_8 (fun w_1 e_1 n_1 => ?_)
  rw [hw] at n_1
  rw [← e_1.2 5 (by rw [hw]; omega)]
  rw [hw]
  have fr := fr.mono (m := 7) (by omega)
  refine g_putF (i := 5) (j := 6) C V F5 (by rw [n_1]; omega) rfl (by decide) 0 (by decide) rfl (hts (.fieldLink RX5 9 "FallBench$Tokens" "kinds" "[I") (by decide +kernel)) rfl rfl rfl rfl rfl dX5_init_10 ?_
  have fr := Fr.uR (i := 5) (k := 0) (j := 6) fr (by omega) (by omega)
  refine g_aload_n C dX5_init_13 rfl ?_
  refine g_sipush (v := 1001) C dX5_init_14 (by decide) ?_
  refine g_newa (at9 := .int) (N := 1001) C V (Or.inl ⟨(by rw [n_1]; exact rfl), rfl⟩) (by rw [n_1]; exact rfl) (by rw [n_1]; exact fr) (hts (.arrayClass .int) (by decide +kernel)) (by decide) (by decide) (by decide) (by decide) dX5_init_17 (fun w_2 e_2 n_2 => ?_)
  rw [n_1] at n_2
  rw [← e_2.2 5 (by rw [n_1]; omega)]
  rw [n_1]
  have fr := fr.mono (m := 8) (by omega)
  refine g_putF (i := 5) (j := 7) C V F5 (by rw [n_2]; omega) rfl (by decide) 1 (by decide) rfl (hts (.fieldLink RX5 15 "FallBench$Tokens" "places" "[I") (by decide +kernel)) rfl rfl rfl rfl rfl dX5_init_19 ?_
  have fr := Fr.uR (i := 5) (k := 1) (j := 7) fr (by omega) (by omega)
  refine g_aload_n C dX5_init_22 rfl ?_
  refine g_sipush (v := 1001) C dX5_init_23 (by decide) ?_
  refine g_newa (at9 := .long) (N := 1001) C V (Or.inr (Or.inl ⟨(by rw [n_2]; exact rfl), rfl⟩)) (by rw [n_2]; exact rfl) (by rw [n_2]; exact fr) (hts (.arrayClass .long) (by decide +kernel)) (by decide) (by decide) (by decide) (by decide) dX5_init_26 (fun w_3 e_3 n_3 => ?_)
  rw [n_2] at n_3
  rw [← e_3.2 5 (by rw [n_2]; omega)]
  rw [n_2]
  have fr := fr.mono (m := 9) (by omega)
  refine g_putF (i := 5) (j := 8) C V F5 (by rw [n_3]; omega) rfl (by decide) 2 (by decide) rfl (hts (.fieldLink RX5 18 "FallBench$Tokens" "values" "[J") (by decide +kernel)) rfl rfl rfl rfl rfl dX5_init_28 ?_
  have fr := Fr.uR (i := 5) (k := 2) (j := 8) fr (by omega) (by omega)
  refine g_aload_n C dX5_init_31 rfl ?_
  refine g_iconst (v := 0) C dX5_init_32 (by decide) ?_
  refine g_puti (i := 5) C F5 (by rw [n_3]; omega) rfl (by decide) 3 (by decide) rfl (hts (.fieldLink RX5 22 "FallBench$Tokens" "next" "I") (by decide +kernel)) rfl rfl rfl rfl dX5_init_33 ?_
  have fr := Fr.uM (i := 5) (k := 3) (v := 0) fr (by omega)
  exact g_vret C Rr ⟨rfl, ((((gle.rf w).tr e_1).tr e_2).tr e_3), n_3, fr, rfl⟩ dX5_init_36

set_option maxHeartbeats 4000000 in
set_option maxRecDepth 100000 in
theorem c_X6_init {l : Launch} {D : va_G} {w : gw} {M : Nat → Nat → Int32} {J : Nat → Nat → Int64} {R : Nat → Nat → Option Nat} (hw : w.1 = 43) (fr : Fr 42 M J R) : Cg l yX6_init wsX6_init ({ frames := 2, cells := 16, slots := 424, locals := 42 } : Room) D w [.ref (w.2.1 42)] (M, J, R) 16 424 (fun v w' u => v = none ∧ gle w w' ∧ w'.1 = 59 ∧ Fr (59) u.1 u.2.1 u.2.2 ∧ u = ((up2 (up2 (up2 (up2 (up2 (up2 (up2 (up2 (up2 (up2 (up2 (up2 (up2 (up2 (up2 (up2 (up2 (up2 (up2 (up2 (up2 (up2 (up2 M 43 1 0) 45 1 0) 42 2 (-1)) 42 3 (-1)) 47 1 0) 49 4 0) 49 5 0) 49 6 0) 49 7 (-1)) 49 8 (-1)) 49 9 0) 49 10 (-1)) 49 11 0) 49 12 0) 54 4 0) 54 5 0) 54 6 0) 54 7 (-1)) 54 8 (-1)) 54 9 0) 54 10 (-1)) 54 11 0) 54 12 0), J, (up2 (up2 (up2 (up2 (up2 (up2 (up2 (up2 (up2 (up2 (up2 (up2 (up2 (up2 (up2 (up2 R 43 0 (some 44)) 42 0 (some 43)) 45 0 (some 46)) 42 1 (some 45)) 47 0 (some 48)) 42 4 (some 47)) 49 0 (some 50)) 49 1 (some 51)) 49 2 (some 52)) 49 3 (some 53)) 42 5 (some 49)) 54 0 (some 55)) 54 1 (some 56)) 54 2 (some 57)) 54 3 (some 58)) 42 6 (some 54)))) := by
  have fr := fr.mono (m := 43) (by omega)
  refine Cg.of (own := RX6) (cc := cX6_init) (maxL := 1) (ret := none) 0 (by decide) rfl rfl (Nat.le_of_ble_eq_true rfl) (fun X C hts V Rr => ?_)
  have F3 : FW X 3 := fun q h => hts q (List.mem_cons_of_mem _ (List.mem_append_left _ (List.mem_append_left _ (List.mem_append_right _ h))))
  have F6 : FW X 6 := fun q h => hts q (List.mem_cons_of_mem _ (List.mem_append_left _ (List.mem_append_right _ h)))
  have F0 : FW X 0 := fun q h => hts q (List.mem_cons_of_mem _ (List.mem_append_right _ h))
  show Gj X 0 0 w M J R 0 [some (.ref (w.2.1 42))] []
  refine g_aload_n C dX6_init_0 rfl ?_
  refine g_objInit C V (hts (.methodLink RX6 3 objectInit) (by decide +kernel)) (hts (.instanceMethod objectInit) (by decide +kernel)) (hts (.code objectInit ⟨#[0xb1]⟩ 1 none) (by decide +kernel)) (by decide) dX6_init_1 ?_
  refine g_aload_n C dX6_init_4 rfl ?_
  refine g_new (ci := 3) (N := 2) C V F3 (by decide) (by rw [hw]; exact rfl) (by rw [hw]; exact fr) (hts (.classLink RX6 9 RX3) (by decide +kernel)) (hts (.instantiable RX3 2) (by decide +kernel)) (hts (.initialized RX3) (by decide +kernel)) rfl (by decide) dX6_init_5 (fun w_1 e_1 n_1 => ?_)
  have frp := fr
  rw [hw] at n_1
  rw [← e_1.2 42 (by rw [hw]; omega)]
  rw [hw]
  have fr := fr.mono (m := 44) (by omega)
  refine g_dup C dX6_init_8 rfl ?_
  refine g_bipush (v := 24) C dX6_init_9 (by decide) ?_
  refine g_callI C hts V (i := 43) (gX6_init_X3_init) rfl (hts (.methodLink RX6 11 yX3_init) (by decide +kernel)) (hts (.instanceMethod yX3_init) (by decide +kernel)) (hts (.initialized RX3) (by decide +kernel)) rfl hdX3_init (by decide) (c_X3_init_24 (i := 43) n_1 frp ⟨rfl, rfl, rfl⟩) rfl rfl (Nat.le_of_ble_eq_true rfl) dX6_init_11 (fun v w_2 M1 J1 R1 h => ?_)
  obtain ⟨v0, e_2, n_2, fr, hu⟩ := h
  subst v0
  cases hu
  have n_2 : w_2.1 = 45 := n_2
  have fr : Fr 45 _ _ _ := fr
  rw [← e_2.2 42 (by rw [n_1]; omega)]
  rw [← e_2.2 43 (by rw [n_1]; omega)]
  refine g_putF (i := 42) (j := 43) C V F6 (by rw [n_2]; omega) rfl (by decide) 0 (by decide) rfl (hts (.fieldLink RX6 14 "FallBench$Trier" "smallest" "LFallBench$Row;") (by decide +kernel)) rfl rfl rfl rfl rfl dX6_init_14 ?_
  have fr := Fr.uR (i := 42) (k := 0) (j := 43) fr (by omega) (by omega)
  refine g_aload_n C dX6_init_17 rfl ?_
  refine g_new (ci := 3) (N := 2) C V F3 (by decide) (by rw [n_2]; exact rfl) (by rw [n_2]; exact fr) (hts (.classLink RX6 9 RX3) (by decide +kernel)) (hts (.instantiable RX3 2) (by decide +kernel)) (hts (.initialized RX3) (by decide +kernel)) rfl (by decide) dX6_init_18 (fun w_3 e_3 n_3 => ?_)
  have frp := fr
  rw [n_2] at n_3
  rw [← e_3.2 42 (by rw [n_2]; omega)]
  rw [n_2]
  have fr := fr.mono (m := 46) (by omega)
  refine g_dup C dX6_init_21 rfl ?_
  refine g_bipush (v := 24) C dX6_init_22 (by decide) ?_
  refine g_callI C hts V (i := 45) (gX6_init_X3_init) rfl (hts (.methodLink RX6 11 yX3_init) (by decide +kernel)) (hts (.instanceMethod yX3_init) (by decide +kernel)) (hts (.initialized RX3) (by decide +kernel)) rfl hdX3_init (by decide) (c_X3_init_24 (i := 45) n_3 frp ⟨rfl, rfl, rfl⟩) rfl rfl (Nat.le_of_ble_eq_true rfl) dX6_init_24 (fun v w_4 M1 J1 R1 h => ?_)
  obtain ⟨v0, e_4, n_4, fr, hu⟩ := h
  subst v0
  cases hu
  have n_4 : w_4.1 = 47 := n_4
  have fr : Fr 47 _ _ _ := fr
  rw [← e_4.2 42 (by rw [n_3]; omega)]
  rw [← e_4.2 45 (by rw [n_3]; omega)]
  refine g_putF (i := 42) (j := 45) C V F6 (by rw [n_4]; omega) rfl (by decide) 1 (by decide) rfl (hts (.fieldLink RX6 20 "FallBench$Trier" "lowest" "LFallBench$Row;") (by decide +kernel)) rfl rfl rfl rfl rfl dX6_init_27 ?_
  have fr := Fr.uR (i := 42) (k := 1) (j := 45) fr (by omega) (by omega)
  refine g_aload_n C dX6_init_30 rfl ?_
  refine g_iconst (v := (-1)) C dX6_init_31 (by decide) ?_
  refine g_puti (i := 42) C F6 (by rw [n_4]; omega) rfl (by decide) 2 (by decide) rfl (hts (.fieldLink RX6 23 "FallBench$Trier" "nearestPlace" "I") (by decide +kernel)) rfl rfl rfl rfl dX6_init_32 ?_
  have fr := Fr.uM (i := 42) (k := 2) (v := (-1)) fr (by omega)
  refine g_aload_n C dX6_init_35 rfl ?_
  refine g_iconst (v := (-1)) C dX6_init_36 (by decide) ?_
  refine g_puti (i := 42) C F6 (by rw [n_4]; omega) rfl (by decide) 3 (by decide) rfl (hts (.fieldLink RX6 27 "FallBench$Trier" "nearestValue" "I") (by decide +kernel)) rfl rfl rfl rfl dX6_init_37 ?_
  have fr := Fr.uM (i := 42) (k := 3) (v := (-1)) fr (by omega)
  refine g_aload_n C dX6_init_40 rfl ?_
  refine g_new (ci := 3) (N := 2) C V F3 (by decide) (by rw [n_4]; exact rfl) (by rw [n_4]; exact fr) (hts (.classLink RX6 9 RX3) (by decide +kernel)) (hts (.instantiable RX3 2) (by decide +kernel)) (hts (.initialized RX3) (by decide +kernel)) rfl (by decide) dX6_init_41 (fun w_5 e_5 n_5 => ?_)
  have frp := fr
  rw [n_4] at n_5
  rw [← e_5.2 42 (by rw [n_4]; omega)]
  rw [n_4]
  have fr := fr.mono (m := 48) (by omega)
  refine g_dup C dX6_init_44 rfl ?_
  refine g_bipush (v := 24) C dX6_init_45 (by decide) ?_
  refine g_callI C hts V (i := 47) (gX6_init_X3_init) rfl (hts (.methodLink RX6 11 yX3_init) (by decide +kernel)) (hts (.instanceMethod yX3_init) (by decide +kernel)) (hts (.initialized RX3) (by decide +kernel)) rfl hdX3_init (by decide) (c_X3_init_24 (i := 47) n_5 frp ⟨rfl, rfl, rfl⟩) rfl rfl (Nat.le_of_ble_eq_true rfl) dX6_init_47 (fun v w_6 M1 J1 R1 h => ?_)
  obtain ⟨v0, e_6, n_6, fr, hu⟩ := h
  subst v0
  cases hu
  have n_6 : w_6.1 = 49 := n_6
  have fr : Fr 49 _ _ _ := fr
  rw [← e_6.2 42 (by rw [n_5]; omega)]
  rw [← e_6.2 47 (by rw [n_5]; omega)]
  refine g_putF (i := 42) (j := 47) C V F6 (by rw [n_6]; omega) rfl (by decide) 4 (by decide) rfl (hts (.fieldLink RX6 30 "FallBench$Trier" "changed" "LFallBench$Row;") (by decide +kernel)) rfl rfl rfl rfl rfl dX6_init_50 ?_
  have fr := Fr.uR (i := 42) (k := 4) (j := 47) fr (by omega) (by omega)
  refine g_aload_n C dX6_init_53 rfl ?_
  refine g_new (ci := 0) (N := 13) C V F0 (by decide) (by rw [n_6]; exact rfl) (by rw [n_6]; exact fr) (hts (.classLink RX6 33 RX0) (by decide +kernel)) (hts (.instantiable RX0 13) (by decide +kernel)) (hts (.initialized RX0) (by decide +kernel)) rfl (by decide) dX6_init_54 (fun w_7 e_7 n_7 => ?_)
  have frp := fr
  rw [n_6] at n_7
  rw [← e_7.2 42 (by rw [n_6]; omega)]
  rw [n_6]
  have fr := fr.mono (m := 50) (by omega)
  refine g_dup C dX6_init_57 rfl ?_
  refine g_callIN C hts V (i := 49) (gX6_init_X0_init_n35) rfl (gN_X6_35 C.2.2.2.2.2.1) (hts (.instanceMethod yX0_init) (by decide +kernel)) (hts (.initialized RX0) (by decide +kernel)) rfl hdX0_init (by decide) (c_X0_init (i := 49) n_7 frp ⟨rfl, rfl, rfl, rfl, rfl, rfl, rfl, rfl, rfl⟩) rfl rfl (Nat.le_of_ble_eq_true rfl) dX6_init_58 (fun v w_8 M1 J1 R1 h => ?_)
  obtain ⟨v0, e_8, n_8, fr, hu⟩ := h
  subst v0
  cases hu
  have n_8 : w_8.1 = 54 := n_8
  have fr : Fr 54 _ _ _ := fr
  rw [← e_8.2 42 (by rw [n_7]; omega)]
  rw [← e_8.2 49 (by rw [n_7]; omega)]
  refine g_putF (i := 42) (j := 49) C V F6 (by rw [n_8]; omega) rfl (by decide) 5 (by decide) rfl (hts (.fieldLink RX6 36 "FallBench$Trier" "asItIs" "LFallBench$Machine;") (by decide +kernel)) rfl rfl rfl rfl rfl dX6_init_61 ?_
  have fr := Fr.uR (i := 42) (k := 5) (j := 49) fr (by omega) (by omega)
  refine g_aload_n C dX6_init_64 rfl ?_
  refine g_new (ci := 0) (N := 13) C V F0 (by decide) (by rw [n_8]; exact rfl) (by rw [n_8]; exact fr) (hts (.classLink RX6 33 RX0) (by decide +kernel)) (hts (.instantiable RX0 13) (by decide +kernel)) (hts (.initialized RX0) (by decide +kernel)) rfl (by decide) dX6_init_65 (fun w_9 e_9 n_9 => ?_)
  have frp := fr
  rw [n_8] at n_9
  rw [← e_9.2 42 (by rw [n_8]; omega)]
  rw [n_8]
  have fr := fr.mono (m := 55) (by omega)
  refine g_dup C dX6_init_68 rfl ?_
  refine g_callIN C hts V (i := 54) (gX6_init_X0_init_n35) rfl (gN_X6_35 C.2.2.2.2.2.1) (hts (.instanceMethod yX0_init) (by decide +kernel)) (hts (.initialized RX0) (by decide +kernel)) rfl hdX0_init (by decide) (c_X0_init (i := 54) n_9 frp ⟨rfl, rfl, rfl, rfl, rfl, rfl, rfl, rfl, rfl⟩) rfl rfl (Nat.le_of_ble_eq_true rfl) dX6_init_69 (fun v w_10 M1 J1 R1 h => ?_)
  obtain ⟨v0, e_10, n_10, fr, hu⟩ := h
  subst v0
  cases hu
  have n_10 : w_10.1 = 59 := n_10
  have fr : Fr 59 _ _ _ := fr
  rw [← e_10.2 42 (by rw [n_9]; omega)]
  rw [← e_10.2 54 (by rw [n_9]; omega)]
  refine g_putF (i := 42) (j := 54) C V F6 (by rw [n_10]; omega) rfl (by decide) 6 (by decide) rfl (hts (.fieldLink RX6 40 "FallBench$Trier" "trial" "LFallBench$Machine;") (by decide +kernel)) rfl rfl rfl rfl rfl dX6_init_72 ?_
  have fr := Fr.uR (i := 42) (k := 6) (j := 54) fr (by omega) (by omega)
  exact g_vret C Rr ⟨rfl, (((((((((((gle.rf w).tr e_1).tr e_2).tr e_3).tr e_4).tr e_5).tr e_6).tr e_7).tr e_8).tr e_9).tr e_10), n_10, fr, rfl⟩ dX6_init_75
