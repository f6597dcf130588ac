/-! THE CONSTRUCTOR of the bench -/
def m7 (M : Nat → Nat → Int32) : Nat → Nat → Int32 := (up2 (up2 (up2 (up2 (up2 (up2 (up2 (up2 (up2 (up2 (up2 (up2 (up2 (up2 (up2 (up2 (up2 (up2 (up2 (up2 (up2 (up2 (up2 (up2 (up2 (up2 (up2 (up2 (up2 (up2 (up2 (up2 (up2 (up2 (up2 (up2 (up2 (up2 (up2 (up2 (up2 (up2 (up2 (up2 (up2 (up2 (up2 (up2 (up2 (up2 (up2 (up2 (up2 (up2 (up2 (up2 (up2 (up2 (up2 (up2 M 1 1 0) 5 3 0) 4 6 0) 4 7 0) 14 4 0) 4 9 0) 4 10 (-1)) 20 4 0) 20 5 0) 20 6 0) 20 7 (-1)) 20 8 (-1)) 20 9 0) 20 10 (-1)) 20 11 0) 20 12 0) 25 4 0) 25 5 0) 25 6 0) 25 7 (-1)) 25 8 (-1)) 25 9 0) 25 10 (-1)) 25 11 0) 25 12 0) 30 4 0) 30 5 0) 30 6 0) 30 7 (-1)) 30 8 (-1)) 30 9 0) 30 10 (-1)) 30 11 0) 30 12 0) 35 6 0) 43 1 0) 45 1 0) 42 2 (-1)) 42 3 (-1)) 47 1 0) 49 4 0) 49 5 0) 49 6 0) 49 7 (-1)) 49 8 (-1)) 49 9 0) 49 10 (-1)) 49 11 0) 49 12 0) 54 4 0) 54 5 0) 54 6 0) 54 7 (-1)) 54 8 (-1)) 54 9 0) 54 10 (-1)) 54 11 0) 54 12 0) 0 9 0) 0 10 0)
def j7 (J : Nat → Nat → Int64) : Nat → Nat → Int64 := (jTx J 62)
def r7a (R : Nat → Nat → Option Nat) : Nat → Nat → Option Nat := (up2 (up2 (up2 (up2 (up2 (up2 (up2 (up2 (up2 (up2 (up2 (up2 (up2 (up2 (up2 (up2 (up2 (up2 (up2 (up2 (up2 (up2 (up2 (up2 (up2 (up2 (up2 (up2 (up2 (up2 (up2 (up2 (up2 (up2 (up2 (up2 (up2 (up2 (up2 (up2 (up2 (up2 (up2 (up2 (up2 (up2 (up2 (up2 (up2 (up2 (up2 (up2 (up2 (up2 (up2 (up2 (up2 (up2 R 1 0 (some 2)) 0 0 (some 1)) 0 1 (some 3)) 5 0 (some 6)) 5 1 (some 7)) 5 2 (some 8)) 4 0 (some 5)) 4 1 (some 9)) 4 2 (some 10)) 4 3 (some 11)) 4 4 (some 12)) 4 5 (some 13)) 14 0 (some 15)) 14 1 (some 16)) 14 2 (some 17)) 14 3 (some 18)) 4 8 (some 14)) 0 2 (some 4)) 0 3 (some 19)) 20 0 (some 21)) 20 1 (some 22)) 20 2 (some 23)) 20 3 (some 24)) 0 4 (some 20)) 25 0 (some 26)) 25 1 (some 27)) 25 2 (some 28)) 25 3 (some 29)) 0 5 (some 25)) 30 0 (some 31)) 30 1 (some 32)) 30 2 (some 33)) 30 3 (some 34)) 0 6 (some 30)) 35 0 (some 36)) 35 1 (some 37)) 35 2 (some 38)) 35 3 (some 39)) 35 4 (some 40)) 35 5 (some 41)) 0 7 (some 35)) 43 0 (some 44)) 42 0 (some 43)) 45 0 (some 46)) 42 1 (some 45)) 47 0 (some 48)) 42 4 (some 47)) 49 0 (some 50)) 49 1 (some 51)) 49 2 (some 52)) 49 3 (some 53)) 42 5 (some 49)) 54 0 (some 55)) 54 1 (some 56)) 54 2 (some 57)) 54 3 (some 58)) 42 6 (some 54)) 0 8 (some 42))

set_option maxHeartbeats 4000000 in
set_option maxRecDepth 100000 in
theorem c_X7_init {l : Launch} {D : va_G} {w : gw} {M : Nat → Nat → Int32} {J : Nat → Nat → Int64} {R : Nat → Nat → Option Nat} (hw : w.1 = 1) (fr : Fr 0 M J R) : CgE ExA l yX7_init wsX7_init ({ frames := 5, cells := 133, slots := 7484, locals := 110 } : Room) D w [.ref (w.2.1 0)] (M, J, R) 133 7484 (fun v w' u => v = none ∧ gle w w' ∧ w'.1 = 134 ∧ Fr (134) u.1 u.2.1 u.2.2 ∧ u = (m7 M, j7 J, r_in (r_sh (r7a R) 3) 30)) := by
  have fr := fr.mono (m := 1) (by omega)
  refine CgE.of (own := RX7) (cc := cX7_init) (maxL := 2) (ret := none) 1 (by decide) rfl rfl (Nat.le_of_ble_eq_true rfl) (fun X C hts V Rr hAO => ?_)
  have F3 : FW X 3 := fun q h => hts q (List.mem_cons_of_mem _ (List.mem_append_left _ (List.mem_append_left _ (List.mem_append_left _ (List.mem_append_left _ (List.mem_append_left _ (List.mem_append_left _ (List.mem_append_left _ (List.mem_append_right _ h)))))))))
  have F7 : FW X 7 := fun q h => hts q (List.mem_cons_of_mem _ (List.mem_append_left _ (List.mem_append_left _ (List.mem_append_left _ (List.mem_append_left _ (List.mem_append_left _ (List.mem_append_left _ (List.mem_append_right _ h))))))))
  have F1 : FW X 1 := fun q h => hts q (List.mem_cons_of_mem _ (List.mem_append_left _ (List.mem_append_left _ (List.mem_append_left _ (List.mem_append_left _ (List.mem_append_left _ (List.mem_append_right _ h)))))))
  have F0 : FW X 0 := fun q h => hts q (List.mem_cons_of_mem _ (List.mem_append_left _ (List.mem_append_left _ (List.mem_append_left _ (List.mem_append_left _ (List.mem_append_right _ h))))))
  have F4 : FW X 4 := fun q h => hts q (List.mem_cons_of_mem _ (List.mem_append_left _ (List.mem_append_left _ (List.mem_append_left _ (List.mem_append_right _ h)))))
  have F6 : FW X 6 := fun q h => hts q (List.mem_cons_of_mem _ (List.mem_append_left _ (List.mem_append_left _ (List.mem_append_right _ h))))
  have F2 : FW X 2 := fun q h => hts q (List.mem_cons_of_mem _ (List.mem_append_left _ (List.mem_append_right _ h)))
  have F5 : FW X 5 := fun q h => hts q (List.mem_cons_of_mem _ (List.mem_append_right _ h))
  show Gj X 0 0 w M J R 0 [some (.ref (w.2.1 0)), none] []
  refine g_aload_n C dX7_init_0 rfl ?_
  refine g_objInit C V (hts (.methodLink RX7 3 objectInit) (by decide +kernel)) (hts (.instanceMethod objectInit) (by decide +kernel)) (hts (.code objectInit ⟨#[0xb1]⟩ 1 none) (by decide +kernel)) (by decide) dX7_init_1 ?_
  refine g_aload_n C dX7_init_4 rfl ?_
  refine g_new (ci := 3) (N := 2) C V F3 (by decide) (by rw [hw]; exact rfl) (by rw [hw]; exact fr) (hts (.classLink RX7 9 RX3) (by decide +kernel)) (hts (.instantiable RX3 2) (by decide +kernel)) (hts (.initialized RX3) (by decide +kernel)) rfl (by decide) dX7_init_5 (fun w_1 e_1 n_1 => ?_)
  have frp := fr
  rw [hw] at n_1
  rw [← e_1.2 0 (by rw [hw]; omega)]
  rw [hw]
  have fr := fr.mono (m := 2) (by omega)
  refine g_dup C dX7_init_8 rfl ?_
  refine g_sipush (v := 1000) C dX7_init_9 (by decide) ?_
  refine g_callI C hts V (i := 1) (gX7_init_X3_init) rfl (hts (.methodLink RX7 11 yX3_init) (by decide +kernel)) (hts (.instanceMethod yX3_init) (by decide +kernel)) (hts (.initialized RX3) (by decide +kernel)) rfl hdX3_init (by decide) (c_X3_init_1000 (i := 1) n_1 frp ⟨rfl, rfl, rfl⟩) rfl rfl (Nat.le_of_ble_eq_true rfl) dX7_init_12 (fun v w_2 M1 J1 R1 h => ?_)
  obtain ⟨v0, e_2, n_2, fr, hu⟩ := h
  subst v0
  cases hu
  have n_2 : w_2.1 = 3 := n_2
  have fr : Fr 3 _ _ _ := fr
  rw [← e_2.2 0 (by rw [n_1]; omega)]
  rw [← e_2.2 1 (by rw [n_1]; omega)]
  refine g_putF (i := 0) (j := 1) C V F7 (by rw [n_2]; omega) rfl (by decide) 0 (by decide) rfl (hts (.fieldLink RX7 14 "FallBench" "tape" "LFallBench$Row;") (by decide +kernel)) rfl rfl rfl rfl rfl dX7_init_15 ?_
  have fr := Fr.uR (i := 0) (k := 0) (j := 1) fr (by omega) (by omega)
  refine g_aload_n C dX7_init_18 rfl ?_
  refine g_iconst (v := 3) C dX7_init_19 (by decide) ?_
  refine g_newq (N := 3) (Cn := "FallBench$Program") C V (Or.inl ⟨(by rw [n_2]; rfl), rfl⟩) (by rw [n_2]; rfl) (by rw [n_2]; exact fr) (hts (.classLink RX7 18 RX2) (by decide +kernel)) hAO.1 (by decide) (by decide) (by decide) (by decide) dX7_init_20 (fun w_3 e_3 n_3 => ?_)
  rw [n_2] at n_3
  rw [← e_3.2 0 (by rw [n_2]; omega)]
  rw [n_2]
  have fr := fr.mono (m := 4) (by omega)
  refine g_putF (i := 0) (j := 3) C V F7 (by rw [n_3]; omega) rfl (by decide) 1 (by decide) rfl (hts (.fieldLink RX7 20 "FallBench" "shelves" "[LFallBench$Program;") (by decide +kernel)) rfl rfl rfl rfl rfl dX7_init_23 ?_
  have fr := Fr.uR (i := 0) (k := 1) (j := 3) fr (by omega) (by omega)
  refine g_aload_n C dX7_init_26 rfl ?_
  refine g_new (ci := 1) (N := 11) C V F1 (by decide) (by rw [n_3]; exact rfl) (by rw [n_3]; exact fr) (hts (.classLink RX7 24 RX1) (by decide +kernel)) (hts (.instantiable RX1 11) (by decide +kernel)) (hts (.initialized RX1) (by decide +kernel)) rfl (by decide) dX7_init_27 (fun w_4 e_4 n_4 => ?_)
  have frp := fr
  rw [n_3] at n_4
  rw [← e_4.2 0 (by rw [n_3]; omega)]
  rw [n_3]
  have fr := fr.mono (m := 5) (by omega)
  refine g_dup C dX7_init_30 rfl ?_
  refine g_callI C hts V (i := 4) (gX7_init_X1_init) rfl (hts (.methodLink RX7 26 yX1_init) (by decide +kernel)) (hts (.instanceMethod yX1_init) (by decide +kernel)) (hts (.initialized RX1) (by decide +kernel)) rfl hdX1_init (by decide) (c_X1_init n_4 frp) rfl rfl (Nat.le_of_ble_eq_true rfl) dX7_init_31 (fun v w_5 M1 J1 R1 h => ?_)
  obtain ⟨v0, e_5, n_5, fr, hu⟩ := h
  subst v0
  cases hu
  have n_5 : w_5.1 = 19 := n_5
  have fr : Fr 19 _ _ _ := fr
  rw [← e_5.2 0 (by rw [n_4]; omega)]
  rw [← e_5.2 4 (by rw [n_4]; omega)]
  refine g_putF (i := 0) (j := 4) C V F7 (by rw [n_5]; omega) rfl (by decide) 2 (by decide) rfl (hts (.fieldLink RX7 27 "FallBench" "parser" "LFallBench$Parser;") (by decide +kernel)) rfl rfl rfl rfl rfl dX7_init_34 ?_
  have fr := Fr.uR (i := 0) (k := 2) (j := 4) fr (by omega) (by omega)
  refine g_aload_n C dX7_init_37 rfl ?_
  refine g_bipush (v := 30) C dX7_init_38 (by decide) ?_
  refine g_newq (N := 30) (Cn := "FallBench$Row") C V (Or.inr ⟨(by rw [n_5]; rfl), rfl⟩) (by rw [n_5]; rfl) (by rw [n_5]; exact fr) (hts (.classLink RX7 9 RX3) (by decide +kernel)) hAO.2 (by decide) (by decide) (by decide) (by decide) dX7_init_40 (fun w_6 e_6 n_6 => ?_)
  rw [n_5] at n_6
  rw [← e_6.2 0 (by rw [n_5]; omega)]
  rw [n_5]
  have fr := fr.mono (m := 20) (by omega)
  refine g_putF (i := 0) (j := 19) C V F7 (by rw [n_6]; omega) rfl (by decide) 3 (by decide) rfl (hts (.fieldLink RX7 31 "FallBench" "inputs" "[LFallBench$Row;") (by decide +kernel)) rfl rfl rfl rfl rfl dX7_init_43 ?_
  have fr := Fr.uR (i := 0) (k := 3) (j := 19) fr (by omega) (by omega)
  refine g_aload_n C dX7_init_46 rfl ?_
  refine g_new (ci := 0) (N := 13) C V F0 (by decide) (by rw [n_6]; exact rfl) (by rw [n_6]; exact fr) (hts (.classLink RX7 35 RX0) (by decide +kernel)) (hts (.instantiable RX0 13) (by decide +kernel)) (hts (.initialized RX0) (by decide +kernel)) rfl (by decide) dX7_init_47 (fun w_7 e_7 n_7 => ?_)
  have frp := fr
  rw [n_6] at n_7
  rw [← e_7.2 0 (by rw [n_6]; omega)]
  rw [n_6]
  have fr := fr.mono (m := 21) (by omega)
  refine g_dup C dX7_init_50 rfl ?_
  refine g_callIN C hts V (i := 20) (gX7_init_X0_init_n37) rfl (gN_X7_37 C.2.2.2.2.2.1) (hts (.instanceMethod yX0_init) (by decide +kernel)) (hts (.initialized RX0) (by decide +kernel)) rfl hdX0_init (by decide) (c_X0_init (i := 20) n_7 frp ⟨rfl, rfl, rfl, rfl, rfl, rfl, rfl, rfl, rfl⟩) rfl rfl (Nat.le_of_ble_eq_true rfl) dX7_init_51 (fun v w_8 M1 J1 R1 h => ?_)
  obtain ⟨v0, e_8, n_8, fr, hu⟩ := h
  subst v0
  cases hu
  have n_8 : w_8.1 = 25 := n_8
  have fr : Fr 25 _ _ _ := fr
  rw [← e_8.2 0 (by rw [n_7]; omega)]
  rw [← e_8.2 20 (by rw [n_7]; omega)]
  refine g_putF (i := 0) (j := 20) C V F7 (by rw [n_8]; omega) rfl (by decide) 4 (by decide) rfl (hts (.fieldLink RX7 38 "FallBench" "latest" "LFallBench$Machine;") (by decide +kernel)) rfl rfl rfl rfl rfl dX7_init_54 ?_
  have fr := Fr.uR (i := 0) (k := 4) (j := 20) fr (by omega) (by omega)
  refine g_aload_n C dX7_init_57 rfl ?_
  refine g_new (ci := 0) (N := 13) C V F0 (by decide) (by rw [n_8]; exact rfl) (by rw [n_8]; exact fr) (hts (.classLink RX7 35 RX0) (by decide +kernel)) (hts (.instantiable RX0 13) (by decide +kernel)) (hts (.initialized RX0) (by decide +kernel)) rfl (by decide) dX7_init_58 (fun w_9 e_9 n_9 => ?_)
  have frp := fr
  rw [n_8] at n_9
  rw [← e_9.2 0 (by rw [n_8]; omega)]
  rw [n_8]
  have fr := fr.mono (m := 26) (by omega)
  refine g_dup C dX7_init_61 rfl ?_
  refine g_callIN C hts V (i := 25) (gX7_init_X0_init_n37) rfl (gN_X7_37 C.2.2.2.2.2.1) (hts (.instanceMethod yX0_init) (by decide +kernel)) (hts (.initialized RX0) (by decide +kernel)) rfl hdX0_init (by decide) (c_X0_init (i := 25) n_9 frp ⟨rfl, rfl, rfl, rfl, rfl, rfl, rfl, rfl, rfl⟩) rfl rfl (Nat.le_of_ble_eq_true rfl) dX7_init_62 (fun v w_10 M1 J1 R1 h => ?_)
  obtain ⟨v0, e_10, n_10, fr, hu⟩ := h
  subst v0
  cases hu
  have n_10 : w_10.1 = 30 := n_10
  have fr : Fr 30 _ _ _ := fr
  rw [← e_10.2 0 (by rw [n_9]; omega)]
  rw [← e_10.2 25 (by rw [n_9]; omega)]
  refine g_putF (i := 0) (j := 25) C V F7 (by rw [n_10]; omega) rfl (by decide) 5 (by decide) rfl (hts (.fieldLink RX7 42 "FallBench" "one" "LFallBench$Machine;") (by decide +kernel)) rfl rfl rfl rfl rfl dX7_init_65 ?_
  have fr := Fr.uR (i := 0) (k := 5) (j := 25) fr (by omega) (by omega)
  refine g_aload_n C dX7_init_68 rfl ?_
  refine g_new (ci := 0) (N := 13) C V F0 (by decide) (by rw [n_10]; exact rfl) (by rw [n_10]; exact fr) (hts (.classLink RX7 35 RX0) (by decide +kernel)) (hts (.instantiable RX0 13) (by decide +kernel)) (hts (.initialized RX0) (by decide +kernel)) rfl (by decide) dX7_init_69 (fun w_11 e_11 n_11 => ?_)
  have frp := fr
  rw [n_10] at n_11
  rw [← e_11.2 0 (by rw [n_10]; omega)]
  rw [n_10]
  have fr := fr.mono (m := 31) (by omega)
  refine g_dup C dX7_init_72 rfl ?_
  refine g_callIN C hts V (i := 30) (gX7_init_X0_init_n37) rfl (gN_X7_37 C.2.2.2.2.2.1) (hts (.instanceMethod yX0_init) (by decide +kernel)) (hts (.initialized RX0) (by decide +kernel)) rfl hdX0_init (by decide) (c_X0_init (i := 30) n_11 frp ⟨rfl, rfl, rfl, rfl, rfl, rfl, rfl, rfl, rfl⟩) rfl rfl (Nat.le_of_ble_eq_true rfl) dX7_init_73 (fun v w_12 M1 J1 R1 h => ?_)
  obtain ⟨v0, e_12, n_12, fr, hu⟩ := h
  subst v0
  cases hu
  have n_12 : w_12.1 = 35 := n_12
  have fr : Fr 35 _ _ _ := fr
  rw [← e_12.2 0 (by rw [n_11]; omega)]
  rw [← e_12.2 30 (by rw [n_11]; omega)]
  refine g_putF (i := 0) (j := 30) C V F7 (by rw [n_12]; omega) rfl (by decide) 6 (by decide) rfl (hts (.fieldLink RX7 45 "FallBench" "two" "LFallBench$Machine;") (by decide +kernel)) rfl rfl rfl rfl rfl dX7_init_76 ?_
  have fr := Fr.uR (i := 0) (k := 6) (j := 30) fr (by omega) (by omega)
  refine g_aload_n C dX7_init_79 rfl ?_
  refine g_new (ci := 4) (N := 7) C V F4 (by decide) (by rw [n_12]; exact rfl) (by rw [n_12]; exact fr) (hts (.classLink RX7 48 RX4) (by decide +kernel)) (hts (.instantiable RX4 7) (by decide +kernel)) (hts (.initialized RX4) (by decide +kernel)) rfl (by decide) dX7_init_80 (fun w_13 e_13 n_13 => ?_)
  have frp := fr
  rw [n_12] at n_13
  rw [← e_13.2 0 (by rw [n_12]; omega)]
  rw [n_12]
  have fr := fr.mono (m := 36) (by omega)
  refine g_dup C dX7_init_83 rfl ?_
  refine g_callIN C hts V (i := 35) (gX7_init_X4_init_n50) rfl (gN_X7_50 C.2.2.2.2.2.1) (hts (.instanceMethod yX4_init) (by decide +kernel)) (hts (.initialized RX4) (by decide +kernel)) rfl hdX4_init (by decide) (c_X4_init n_13 frp) rfl rfl (Nat.le_of_ble_eq_true rfl) dX7_init_84 (fun v w_14 M1 J1 R1 h => ?_)
  obtain ⟨v0, e_14, n_14, fr, hu⟩ := h
  subst v0
  cases hu
  have n_14 : w_14.1 = 42 := n_14
  have fr : Fr 42 _ _ _ := fr
  rw [← e_14.2 0 (by rw [n_13]; omega)]
  rw [← e_14.2 35 (by rw [n_13]; omega)]
  refine g_putF (i := 0) (j := 35) C V F7 (by rw [n_14]; omega) rfl (by decide) 7 (by decide) rfl (hts (.fieldLink RX7 51 "FallBench" "sorter" "LFallBench$Sorter;") (by decide +kernel)) rfl rfl rfl rfl rfl dX7_init_87 ?_
  have fr := Fr.uR (i := 0) (k := 7) (j := 35) fr (by omega) (by omega)
  refine g_aload_n C dX7_init_90 rfl ?_
  refine g_new (ci := 6) (N := 7) C V F6 (by decide) (by rw [n_14]; exact rfl) (by rw [n_14]; exact fr) (hts (.classLink RX7 55 RX6) (by decide +kernel)) (hts (.instantiable RX6 7) (by decide +kernel)) (hts (.initialized RX6) (by decide +kernel)) rfl (by decide) dX7_init_91 (fun w_15 e_15 n_15 => ?_)
  have frp := fr
  rw [n_14] at n_15
  rw [← e_15.2 0 (by rw [n_14]; omega)]
  rw [n_14]
  have fr := fr.mono (m := 43) (by omega)
  refine g_dup C dX7_init_94 rfl ?_
  refine g_callIN C hts V (i := 42) (gX7_init_X6_init_n57) rfl (gN_X7_57 C.2.2.2.2.2.1) (hts (.instanceMethod yX6_init) (by decide +kernel)) (hts (.initialized RX6) (by decide +kernel)) rfl hdX6_init (by decide) (c_X6_init n_15 frp) rfl rfl (Nat.le_of_ble_eq_true rfl) dX7_init_95 (fun v w_16 M1 J1 R1 h => ?_)
  obtain ⟨v0, e_16, n_16, fr, hu⟩ := h
  subst v0
  cases hu
  have n_16 : w_16.1 = 59 := n_16
  have fr : Fr 59 _ _ _ := fr
  rw [← e_16.2 0 (by rw [n_15]; omega)]
  rw [← e_16.2 42 (by rw [n_15]; omega)]
  refine g_putF (i := 0) (j := 42) C V F7 (by rw [n_16]; omega) rfl (by decide) 8 (by decide) rfl (hts (.fieldLink RX7 58 "FallBench" "trier" "LFallBench$Trier;") (by decide +kernel)) rfl rfl rfl rfl rfl dX7_init_98 ?_
  have fr := Fr.uR (i := 0) (k := 8) (j := 42) fr (by omega) (by omega)
  refine g_aload_n C dX7_init_101 rfl ?_
  refine g_iconst (v := 0) C dX7_init_102 (by decide) ?_
  refine g_puti (i := 0) C F7 (by rw [n_16]; omega) rfl (by decide) 9 (by decide) rfl (hts (.fieldLink RX7 62 "FallBench" "inputCount" "I") (by decide +kernel)) rfl rfl rfl rfl dX7_init_103 ?_
  have fr := Fr.uM (i := 0) (k := 9) (v := 0) fr (by omega)
  refine g_aload_n C dX7_init_106 rfl ?_
  refine g_iconst (v := 0) C dX7_init_107 (by decide) ?_
  refine g_puti (i := 0) C F7 (by rw [n_16]; omega) rfl (by decide) 10 (by decide) rfl (hts (.fieldLink RX7 66 "FallBench" "hasRun" "Z") (by decide +kernel)) rfl rfl rfl rfl dX7_init_108 ?_
  have fr := Fr.uM (i := 0) (k := 10) (v := 0) fr (by omega)
  refine g_iconst (v := 0) C dX7_init_111 (by decide) ?_
  refine g_istore_n C V.2.1 dX7_init_112 (by decide) rfl ?_
  refine x7_sh C hts V (R := r7a R) rfl w_16 (fun w9 hg hw9 fr9 => ?_) 3 0 w_16 (by decide) (gle.rf _) n_16 fr
  refine g_iconst (v := 0) C dX7_init_137 (by decide) ?_
  refine g_istore_n C V.2.1 dX7_init_138 (by decide) rfl ?_
  exact x7_in C hts V Rr (R := r_sh (r7a R) 3) (by rw [r_sh_0]; rfl) w9 (fun w10 hg2 hw10 fr10 => ⟨rfl, ((((((((((((((((((gle.rf w).tr e_1).tr e_2).tr e_3).tr e_4).tr e_5).tr e_6).tr e_7).tr e_8).tr e_9).tr e_10).tr e_11).tr e_12).tr e_13).tr e_14).tr e_15).tr e_16).tr hg).tr hg2, hw10, fr10, rfl⟩) 30 0 w9 (by decide) (gle.rf _) hw9 fr9
