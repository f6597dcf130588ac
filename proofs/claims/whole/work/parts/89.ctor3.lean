/-! CONSTRUCTORS of the reference and of the parser -/
theorem gN_X1_11 {U : State} (h : gNest U) : va_Nw (.methodLinkNest RX1 11 yX5_init RX7) U := h.1
theorem gN_X1_44 {U : State} (h : gNest U) : va_Nw (.methodLinkNest RX1 44 yX2_init RX7) U := h.2.1
theorem gN_X1_67 {U : State} (h : gNest U) : va_Nw (.methodLinkNest RX1 67 yX7_withLetter RX7) U := h.2.2.1

set_option maxHeartbeats 4000000 in
set_option maxRecDepth 100000 in
theorem c_X8_init {l : Launch} {D : va_G} {w : gw} {M : Nat → Nat → Int32} {J : Nat → Nat → Int64} {R : Nat → Nat → Option Nat} (hw : w.1 = 135) (fr : Fr 134 M J R) : Cg l yX8_init wsX8_init ({ frames := 1, cells := 31, slots := 4843, locals := 12 } : Room) D w [.ref (w.2.1 134)] (M, J, R) 31 4843 (fun v w' u => v = none ∧ gle w w' ∧ w'.1 = 166 ∧ Fr (166) u.1 u.2.1 u.2.2 ∧ u = ((up2 (up2 M 134 5 (-1)) 134 53 (-1)), J, (up2 (up2 (up2 (up2 (up2 (up2 (up2 (up2 (up2 (up2 (up2 (up2 (up2 (up2 (up2 (up2 (up2 (up2 (up2 (up2 (up2 (up2 (up2 (up2 (up2 (up2 (up2 (up2 (up2 (up2 (up2 R 134 0 (some 135)) 134 1 (some 136)) 134 11 (some 137)) 134 12 (some 138)) 134 13 (some 139)) 134 14 (some 140)) 134 15 (some 141)) 134 16 (some 142)) 134 17 (some 143)) 134 18 (some 144)) 134 19 (some 145)) 134 21 (some 146)) 134 22 (some 147)) 134 24 (some 148)) 134 25 (some 149)) 134 26 (some 150)) 134 27 (some 151)) 134 28 (some 152)) 134 39 (some 153)) 134 40 (some 154)) 134 41 (some 155)) 134 42 (some 156)) 134 43 (some 157)) 134 45 (some 158)) 134 46 (some 159)) 134 47 (some 160)) 134 48 (some 161)) 134 49 (some 162)) 134 51 (some 163)) 134 52 (some 164)) 134 59 (some 165)))) := by
  have fr := fr.mono (m := 135) (by omega)
  refine Cg.of (own := RX8) (cc := cX8_init) (maxL := 1) (ret := none) 0 (by decide) rfl rfl (Nat.le_of_ble_eq_true rfl) (fun X C hts V Rr => ?_)
  have F8 : FW X 8 := fun q h => hts q (List.mem_cons_of_mem _ (List.mem_append_right _ h))
  show Gj X 0 0 w M J R 0 [some (.ref (w.2.1 134))] []
  refine g_aload_n C dX8_init_0 rfl ?_
  refine g_objInit C V (hts (.methodLink RX8 1 objectInit) (by decide +kernel)) (hts (.instanceMethod objectInit) (by decide +kernel)) (hts (.code objectInit ⟨#[0xb1]⟩ 1 none) (by decide +kernel)) (by decide) dX8_init_1 ?_
  refine g_aload_n C dX8_init_4 rfl ?_
  refine g_sipush (v := 1020) C dX8_init_5 (by decide) ?_
  refine g_newa (at9 := .byte) (N := 1020) C V (Or.inr (Or.inr ⟨(by rw [hw]; exact rfl), rfl⟩)) (by rw [hw]; exact rfl) (by rw [hw]; exact fr) (hts (.arrayClass .byte) (by decide +kernel)) (by decide) (by decide) (by decide) (by decide) dX8_init_8 (fun w_1 e_1 n_1 => ?_)
  rw [hw] at n_1
  rw [← e_1.2 134 (by rw [hw]; omega)]
  rw [hw]
  have fr := fr.mono (m := 136) (by omega)
  refine g_putF (i := 134) (j := 135) C V F8 (by rw [n_1]; omega) rfl (by decide) 0 (by decide) rfl (hts (.fieldLink RX8 7 "FallBenchModel" "tape" "[B") (by decide +kernel)) rfl rfl rfl rfl rfl dX8_init_10 ?_
  have fr := Fr.uR (i := 134) (k := 0) (j := 135) fr (by omega) (by omega)
  refine g_aload_n C dX8_init_13 rfl ?_
  refine g_sipush (v := 1000) C dX8_init_14 (by decide) ?_
  refine g_newa (at9 := .byte) (N := 1000) C V (Or.inr (Or.inr ⟨(by rw [n_1]; exact rfl), rfl⟩)) (by rw [n_1]; exact rfl) (by rw [n_1]; exact fr) (hts (.arrayClass .byte) (by decide +kernel)) (by decide) (by decide) (by decide) (by decide) dX8_init_17 (fun w_2 e_2 n_2 => ?_)
  rw [n_1] at n_2
  rw [← e_2.2 134 (by rw [n_1]; omega)]
  rw [n_1]
  have fr := fr.mono (m := 137) (by omega)
  refine g_putF (i := 134) (j := 136) C V F8 (by rw [n_2]; omega) rfl (by decide) 1 (by decide) rfl (hts (.fieldLink RX8 13 "FallBenchModel" "text" "[B") (by decide +kernel)) rfl rfl rfl rfl rfl dX8_init_19 ?_
  have fr := Fr.uR (i := 134) (k := 1) (j := 136) fr (by omega) (by omega)
  refine g_aload_n C dX8_init_22 rfl ?_
  refine g_iconst (v := (-1)) C dX8_init_23 (by decide) ?_
  refine g_puti (i := 134) C F8 (by rw [n_2]; omega) rfl (by decide) 5 (by decide) rfl (hts (.fieldLink RX8 16 "FallBenchModel" "faultPlace" "I") (by decide +kernel)) rfl rfl rfl rfl dX8_init_24 ?_
  have fr := Fr.uM (i := 134) (k := 5) (v := (-1)) fr (by omega)
  refine g_aload_n C dX8_init_27 rfl ?_
  refine g_sipush (v := 320) C dX8_init_28 (by decide) ?_
  refine g_newa (at9 := .int) (N := 320) C V (Or.inl ⟨(by rw [n_2]; exact rfl), rfl⟩) (by rw [n_2]; exact rfl) (by rw [n_2]; exact fr) (hts (.arrayClass .int) (by decide +kernel)) (by decide) (by decide) (by decide) (by decide) dX8_init_31 (fun w_3 e_3 n_3 => ?_)
  rw [n_2] at n_3
  rw [← e_3.2 134 (by rw [n_2]; omega)]
  rw [n_2]
  have fr := fr.mono (m := 138) (by omega)
  refine g_putF (i := 134) (j := 137) C V F8 (by rw [n_3]; omega) rfl (by decide) 11 (by decide) rfl (hts (.fieldLink RX8 20 "FallBenchModel" "aWhat" "[I") (by decide +kernel)) rfl rfl rfl rfl rfl dX8_init_33 ?_
  have fr := Fr.uR (i := 134) (k := 11) (j := 137) fr (by omega) (by omega)
  refine g_aload_n C dX8_init_36 rfl ?_
  refine g_sipush (v := 320) C dX8_init_37 (by decide) ?_
  refine g_newa (at9 := .int) (N := 320) C V (Or.inl ⟨(by rw [n_3]; exact rfl), rfl⟩) (by rw [n_3]; exact rfl) (by rw [n_3]; exact fr) (hts (.arrayClass .int) (by decide +kernel)) (by decide) (by decide) (by decide) (by decide) dX8_init_40 (fun w_4 e_4 n_4 => ?_)
  rw [n_3] at n_4
  rw [← e_4.2 134 (by rw [n_3]; omega)]
  rw [n_3]
  have fr := fr.mono (m := 139) (by omega)
  refine g_putF (i := 134) (j := 138) C V F8 (by rw [n_4]; omega) rfl (by decide) 12 (by decide) rfl (hts (.fieldLink RX8 24 "FallBenchModel" "aOne" "[I") (by decide +kernel)) rfl rfl rfl rfl rfl dX8_init_42 ?_
  have fr := Fr.uR (i := 134) (k := 12) (j := 138) fr (by omega) (by omega)
  refine g_aload_n C dX8_init_45 rfl ?_
  refine g_sipush (v := 320) C dX8_init_46 (by decide) ?_
  refine g_newa (at9 := .int) (N := 320) C V (Or.inl ⟨(by rw [n_4]; exact rfl), rfl⟩) (by rw [n_4]; exact rfl) (by rw [n_4]; exact fr) (hts (.arrayClass .int) (by decide +kernel)) (by decide) (by decide) (by decide) (by decide) dX8_init_49 (fun w_5 e_5 n_5 => ?_)
  rw [n_4] at n_5
  rw [← e_5.2 134 (by rw [n_4]; omega)]
  rw [n_4]
  have fr := fr.mono (m := 140) (by omega)
  refine g_putF (i := 134) (j := 139) C V F8 (by rw [n_5]; omega) rfl (by decide) 13 (by decide) rfl (hts (.fieldLink RX8 27 "FallBenchModel" "aTwo" "[I") (by decide +kernel)) rfl rfl rfl rfl rfl dX8_init_51 ?_
  have fr := Fr.uR (i := 134) (k := 13) (j := 139) fr (by omega) (by omega)
  refine g_aload_n C dX8_init_54 rfl ?_
  refine g_sipush (v := 320) C dX8_init_55 (by decide) ?_
  refine g_newa (at9 := .int) (N := 320) C V (Or.inl ⟨(by rw [n_5]; exact rfl), rfl⟩) (by rw [n_5]; exact rfl) (by rw [n_5]; exact fr) (hts (.arrayClass .int) (by decide +kernel)) (by decide) (by decide) (by decide) (by decide) dX8_init_58 (fun w_6 e_6 n_6 => ?_)
  rw [n_5] at n_6
  rw [← e_6.2 134 (by rw [n_5]; omega)]
  rw [n_5]
  have fr := fr.mono (m := 141) (by omega)
  refine g_putF (i := 134) (j := 140) C V F8 (by rw [n_6]; omega) rfl (by decide) 14 (by decide) rfl (hts (.fieldLink RX8 30 "FallBenchModel" "aN" "[I") (by decide +kernel)) rfl rfl rfl rfl rfl dX8_init_60 ?_
  have fr := Fr.uR (i := 134) (k := 14) (j := 140) fr (by omega) (by omega)
  refine g_aload_n C dX8_init_63 rfl ?_
  refine g_iconst (v := 4) C dX8_init_64 (by decide) ?_
  refine g_newa (at9 := .int) (N := 4) C V (Or.inl ⟨(by rw [n_6]; exact rfl), rfl⟩) (by rw [n_6]; exact rfl) (by rw [n_6]; exact fr) (hts (.arrayClass .int) (by decide +kernel)) (by decide) (by decide) (by decide) (by decide) dX8_init_65 (fun w_7 e_7 n_7 => ?_)
  rw [n_6] at n_7
  rw [← e_7.2 134 (by rw [n_6]; omega)]
  rw [n_6]
  have fr := fr.mono (m := 142) (by omega)
  refine g_putF (i := 134) (j := 141) C V F8 (by rw [n_7]; omega) rfl (by decide) 15 (by decide) rfl (hts (.fieldLink RX8 33 "FallBenchModel" "many" "[I") (by decide +kernel)) rfl rfl rfl rfl rfl dX8_init_67 ?_
  have fr := Fr.uR (i := 134) (k := 15) (j := 141) fr (by omega) (by omega)
  refine g_aload_n C dX8_init_70 rfl ?_
  refine g_bipush (v := 20) C dX8_init_71 (by decide) ?_
  refine g_newa (at9 := .int) (N := 20) C V (Or.inl ⟨(by rw [n_7]; exact rfl), rfl⟩) (by rw [n_7]; exact rfl) (by rw [n_7]; exact fr) (hts (.arrayClass .int) (by decide +kernel)) (by decide) (by decide) (by decide) (by decide) dX8_init_73 (fun w_8 e_8 n_8 => ?_)
  rw [n_7] at n_8
  rw [← e_8.2 134 (by rw [n_7]; omega)]
  rw [n_7]
  have fr := fr.mono (m := 143) (by omega)
  refine g_putF (i := 134) (j := 142) C V F8 (by rw [n_8]; omega) rfl (by decide) 16 (by decide) rfl (hts (.fieldLink RX8 36 "FallBenchModel" "labelAt" "[I") (by decide +kernel)) rfl rfl rfl rfl rfl dX8_init_75 ?_
  have fr := Fr.uR (i := 134) (k := 16) (j := 142) fr (by omega) (by omega)
  refine g_aload_n C dX8_init_78 rfl ?_
  refine g_bipush (v := 80) C dX8_init_79 (by decide) ?_
  refine g_newa (at9 := .int) (N := 80) C V (Or.inl ⟨(by rw [n_8]; exact rfl), rfl⟩) (by rw [n_8]; exact rfl) (by rw [n_8]; exact fr) (hts (.arrayClass .int) (by decide +kernel)) (by decide) (by decide) (by decide) (by decide) dX8_init_81 (fun w_9 e_9 n_9 => ?_)
  rw [n_8] at n_9
  rw [← e_9.2 134 (by rw [n_8]; omega)]
  rw [n_8]
  have fr := fr.mono (m := 144) (by omega)
  refine g_putF (i := 134) (j := 143) C V F8 (by rw [n_9]; omega) rfl (by decide) 17 (by decide) rfl (hts (.fieldLink RX8 39 "FallBenchModel" "goesAt" "[I") (by decide +kernel)) rfl rfl rfl rfl rfl dX8_init_83 ?_
  have fr := Fr.uR (i := 134) (k := 17) (j := 143) fr (by omega) (by omega)
  refine g_aload_n C dX8_init_86 rfl ?_
  refine g_bipush (v := 20) C dX8_init_87 (by decide) ?_
  refine g_newa (at9 := .long) (N := 20) C V (Or.inr (Or.inl ⟨(by rw [n_9]; exact rfl), rfl⟩)) (by rw [n_9]; exact rfl) (by rw [n_9]; exact fr) (hts (.arrayClass .long) (by decide +kernel)) (by decide) (by decide) (by decide) (by decide) dX8_init_89 (fun w_10 e_10 n_10 => ?_)
  rw [n_9] at n_10
  rw [← e_10.2 134 (by rw [n_9]; omega)]
  rw [n_9]
  have fr := fr.mono (m := 145) (by omega)
  refine g_putF (i := 134) (j := 144) C V F8 (by rw [n_10]; omega) rfl (by decide) 18 (by decide) rfl (hts (.fieldLink RX8 42 "FallBenchModel" "label" "[J") (by decide +kernel)) rfl rfl rfl rfl rfl dX8_init_91 ?_
  have fr := Fr.uR (i := 134) (k := 18) (j := 144) fr (by omega) (by omega)
  refine g_aload_n C dX8_init_94 rfl ?_
  refine g_bipush (v := 80) C dX8_init_95 (by decide) ?_
  refine g_newa (at9 := .long) (N := 80) C V (Or.inr (Or.inl ⟨(by rw [n_10]; exact rfl), rfl⟩)) (by rw [n_10]; exact rfl) (by rw [n_10]; exact fr) (hts (.arrayClass .long) (by decide +kernel)) (by decide) (by decide) (by decide) (by decide) dX8_init_97 (fun w_11 e_11 n_11 => ?_)
  rw [n_10] at n_11
  rw [← e_11.2 134 (by rw [n_10]; omega)]
  rw [n_10]
  have fr := fr.mono (m := 146) (by omega)
  refine g_putF (i := 134) (j := 145) C V F8 (by rw [n_11]; omega) rfl (by decide) 19 (by decide) rfl (hts (.fieldLink RX8 46 "FallBenchModel" "goesTo" "[J") (by decide +kernel)) rfl rfl rfl rfl rfl dX8_init_99 ?_
  have fr := Fr.uR (i := 134) (k := 19) (j := 145) fr (by omega) (by omega)
  refine g_aload_n C dX8_init_102 rfl ?_
  refine g_sipush (v := 720) C dX8_init_103 (by decide) ?_
  refine g_newa (at9 := .int) (N := 720) C V (Or.inl ⟨(by rw [n_11]; exact rfl), rfl⟩) (by rw [n_11]; exact rfl) (by rw [n_11]; exact fr) (hts (.arrayClass .int) (by decide +kernel)) (by decide) (by decide) (by decide) (by decide) dX8_init_106 (fun w_12 e_12 n_12 => ?_)
  rw [n_11] at n_12
  rw [← e_12.2 134 (by rw [n_11]; omega)]
  rw [n_11]
  have fr := fr.mono (m := 147) (by omega)
  refine g_putF (i := 134) (j := 146) C V F8 (by rw [n_12]; omega) rfl (by decide) 21 (by decide) rfl (hts (.fieldLink RX8 49 "FallBenchModel" "inputs" "[I") (by decide +kernel)) rfl rfl rfl rfl rfl dX8_init_108 ?_
  have fr := Fr.uR (i := 134) (k := 21) (j := 146) fr (by omega) (by omega)
  refine g_aload_n C dX8_init_111 rfl ?_
  refine g_bipush (v := 30) C dX8_init_112 (by decide) ?_
  refine g_newa (at9 := .int) (N := 30) C V (Or.inl ⟨(by rw [n_12]; exact rfl), rfl⟩) (by rw [n_12]; exact rfl) (by rw [n_12]; exact fr) (hts (.arrayClass .int) (by decide +kernel)) (by decide) (by decide) (by decide) (by decide) dX8_init_114 (fun w_13 e_13 n_13 => ?_)
  rw [n_12] at n_13
  rw [← e_13.2 134 (by rw [n_12]; omega)]
  rw [n_12]
  have fr := fr.mono (m := 148) (by omega)
  refine g_putF (i := 134) (j := 147) C V F8 (by rw [n_13]; omega) rfl (by decide) 22 (by decide) rfl (hts (.fieldLink RX8 52 "FallBenchModel" "inputSize" "[I") (by decide +kernel)) rfl rfl rfl rfl rfl dX8_init_116 ?_
  have fr := Fr.uR (i := 134) (k := 22) (j := 147) fr (by omega) (by omega)
  refine g_aload_n C dX8_init_119 rfl ?_
  refine g_bipush (v := 24) C dX8_init_120 (by decide) ?_
  refine g_newa (at9 := .int) (N := 24) C V (Or.inl ⟨(by rw [n_13]; exact rfl), rfl⟩) (by rw [n_13]; exact rfl) (by rw [n_13]; exact fr) (hts (.arrayClass .int) (by decide +kernel)) (by decide) (by decide) (by decide) (by decide) dX8_init_122 (fun w_14 e_14 n_14 => ?_)
  rw [n_13] at n_14
  rw [← e_14.2 134 (by rw [n_13]; omega)]
  rw [n_13]
  have fr := fr.mono (m := 149) (by omega)
  refine g_putF (i := 134) (j := 148) C V F8 (by rw [n_14]; omega) rfl (by decide) 24 (by decide) rfl (hts (.fieldLink RX8 55 "FallBenchModel" "bytes" "[I") (by decide +kernel)) rfl rfl rfl rfl rfl dX8_init_124 ?_
  have fr := Fr.uR (i := 134) (k := 24) (j := 148) fr (by omega) (by omega)
  refine g_aload_n C dX8_init_127 rfl ?_
  refine g_bipush (v := 40) C dX8_init_128 (by decide) ?_
  refine g_newa (at9 := .int) (N := 40) C V (Or.inl ⟨(by rw [n_14]; exact rfl), rfl⟩) (by rw [n_14]; exact rfl) (by rw [n_14]; exact fr) (hts (.arrayClass .int) (by decide +kernel)) (by decide) (by decide) (by decide) (by decide) dX8_init_130 (fun w_15 e_15 n_15 => ?_)
  rw [n_14] at n_15
  rw [← e_15.2 134 (by rw [n_14]; omega)]
  rw [n_14]
  have fr := fr.mono (m := 150) (by omega)
  refine g_putF (i := 134) (j := 149) C V F8 (by rw [n_15]; omega) rfl (by decide) 25 (by decide) rfl (hts (.fieldLink RX8 58 "FallBenchModel" "value" "[I") (by decide +kernel)) rfl rfl rfl rfl rfl dX8_init_132 ?_
  have fr := Fr.uR (i := 134) (k := 25) (j := 149) fr (by omega) (by omega)
  refine g_aload_n C dX8_init_135 rfl ?_
  refine g_bipush (v := 40) C dX8_init_136 (by decide) ?_
  refine g_newa (at9 := .int) (N := 40) C V (Or.inl ⟨(by rw [n_15]; exact rfl), rfl⟩) (by rw [n_15]; exact rfl) (by rw [n_15]; exact fr) (hts (.arrayClass .int) (by decide +kernel)) (by decide) (by decide) (by decide) (by decide) dX8_init_138 (fun w_16 e_16 n_16 => ?_)
  rw [n_15] at n_16
  rw [← e_16.2 134 (by rw [n_15]; omega)]
  rw [n_15]
  have fr := fr.mono (m := 151) (by omega)
  refine g_putF (i := 134) (j := 150) C V F8 (by rw [n_16]; omega) rfl (by decide) 26 (by decide) rfl (hts (.fieldLink RX8 61 "FallBenchModel" "maker" "[I") (by decide +kernel)) rfl rfl rfl rfl rfl dX8_init_140 ?_
  have fr := Fr.uR (i := 134) (k := 26) (j := 150) fr (by omega) (by omega)
  refine g_aload_n C dX8_init_143 rfl ?_
  refine g_bipush (v := 40) C dX8_init_144 (by decide) ?_
  refine g_newa (at9 := .int) (N := 40) C V (Or.inl ⟨(by rw [n_16]; exact rfl), rfl⟩) (by rw [n_16]; exact rfl) (by rw [n_16]; exact fr) (hts (.arrayClass .int) (by decide +kernel)) (by decide) (by decide) (by decide) (by decide) dX8_init_146 (fun w_17 e_17 n_17 => ?_)
  rw [n_16] at n_17
  rw [← e_17.2 134 (by rw [n_16]; omega)]
  rw [n_16]
  have fr := fr.mono (m := 152) (by omega)
  refine g_putF (i := 134) (j := 151) C V F8 (by rw [n_17]; omega) rfl (by decide) 27 (by decide) rfl (hts (.fieldLink RX8 64 "FallBenchModel" "came" "[I") (by decide +kernel)) rfl rfl rfl rfl rfl dX8_init_148 ?_
  have fr := Fr.uR (i := 134) (k := 27) (j := 151) fr (by omega) (by omega)
  refine g_aload_n C dX8_init_151 rfl ?_
  refine g_bipush (v := 40) C dX8_init_152 (by decide) ?_
  refine g_newa (at9 := .int) (N := 40) C V (Or.inl ⟨(by rw [n_17]; exact rfl), rfl⟩) (by rw [n_17]; exact rfl) (by rw [n_17]; exact fr) (hts (.arrayClass .int) (by decide +kernel)) (by decide) (by decide) (by decide) (by decide) dX8_init_154 (fun w_18 e_18 n_18 => ?_)
  rw [n_17] at n_18
  rw [← e_18.2 134 (by rw [n_17]; omega)]
  rw [n_17]
  have fr := fr.mono (m := 153) (by omega)
  refine g_putF (i := 134) (j := 152) C V F8 (by rw [n_18]; omega) rfl (by decide) 28 (by decide) rfl (hts (.fieldLink RX8 67 "FallBenchModel" "outs" "[I") (by decide +kernel)) rfl rfl rfl rfl rfl dX8_init_156 ?_
  have fr := Fr.uR (i := 134) (k := 28) (j := 152) fr (by omega) (by omega)
  refine g_aload_n C dX8_init_159 rfl ?_
  refine g_bipush (v := 40) C dX8_init_160 (by decide) ?_
  refine g_newa (at9 := .int) (N := 40) C V (Or.inl ⟨(by rw [n_18]; exact rfl), rfl⟩) (by rw [n_18]; exact rfl) (by rw [n_18]; exact fr) (hts (.arrayClass .int) (by decide +kernel)) (by decide) (by decide) (by decide) (by decide) dX8_init_162 (fun w_19 e_19 n_19 => ?_)
  rw [n_18] at n_19
  rw [← e_19.2 134 (by rw [n_18]; omega)]
  rw [n_18]
  have fr := fr.mono (m := 154) (by omega)
  refine g_putF (i := 134) (j := 153) C V F8 (by rw [n_19]; omega) rfl (by decide) 39 (by decide) rfl (hts (.fieldLink RX8 70 "FallBenchModel" "lookValue" "[I") (by decide +kernel)) rfl rfl rfl rfl rfl dX8_init_164 ?_
  have fr := Fr.uR (i := 134) (k := 39) (j := 153) fr (by omega) (by omega)
  refine g_aload_n C dX8_init_167 rfl ?_
  refine g_bipush (v := 40) C dX8_init_168 (by decide) ?_
  refine g_newa (at9 := .int) (N := 40) C V (Or.inl ⟨(by rw [n_19]; exact rfl), rfl⟩) (by rw [n_19]; exact rfl) (by rw [n_19]; exact fr) (hts (.arrayClass .int) (by decide +kernel)) (by decide) (by decide) (by decide) (by decide) dX8_init_170 (fun w_20 e_20 n_20 => ?_)
  rw [n_19] at n_20
  rw [← e_20.2 134 (by rw [n_19]; omega)]
  rw [n_19]
  have fr := fr.mono (m := 155) (by omega)
  refine g_putF (i := 134) (j := 154) C V F8 (by rw [n_20]; omega) rfl (by decide) 40 (by decide) rfl (hts (.fieldLink RX8 73 "FallBenchModel" "lookMaker" "[I") (by decide +kernel)) rfl rfl rfl rfl rfl dX8_init_172 ?_
  have fr := Fr.uR (i := 134) (k := 40) (j := 154) fr (by omega) (by omega)
  refine g_aload_n C dX8_init_175 rfl ?_
  refine g_bipush (v := 40) C dX8_init_176 (by decide) ?_
  refine g_newa (at9 := .int) (N := 40) C V (Or.inl ⟨(by rw [n_20]; exact rfl), rfl⟩) (by rw [n_20]; exact rfl) (by rw [n_20]; exact fr) (hts (.arrayClass .int) (by decide +kernel)) (by decide) (by decide) (by decide) (by decide) dX8_init_178 (fun w_21 e_21 n_21 => ?_)
  rw [n_20] at n_21
  rw [← e_21.2 134 (by rw [n_20]; omega)]
  rw [n_20]
  have fr := fr.mono (m := 156) (by omega)
  refine g_putF (i := 134) (j := 155) C V F8 (by rw [n_21]; omega) rfl (by decide) 41 (by decide) rfl (hts (.fieldLink RX8 76 "FallBenchModel" "lookCame" "[I") (by decide +kernel)) rfl rfl rfl rfl rfl dX8_init_180 ?_
  have fr := Fr.uR (i := 134) (k := 41) (j := 155) fr (by omega) (by omega)
  refine g_aload_n C dX8_init_183 rfl ?_
  refine g_bipush (v := 40) C dX8_init_184 (by decide) ?_
  refine g_newa (at9 := .int) (N := 40) C V (Or.inl ⟨(by rw [n_21]; exact rfl), rfl⟩) (by rw [n_21]; exact rfl) (by rw [n_21]; exact fr) (hts (.arrayClass .int) (by decide +kernel)) (by decide) (by decide) (by decide) (by decide) dX8_init_186 (fun w_22 e_22 n_22 => ?_)
  rw [n_21] at n_22
  rw [← e_22.2 134 (by rw [n_21]; omega)]
  rw [n_21]
  have fr := fr.mono (m := 157) (by omega)
  refine g_putF (i := 134) (j := 156) C V F8 (by rw [n_22]; omega) rfl (by decide) 42 (by decide) rfl (hts (.fieldLink RX8 79 "FallBenchModel" "lookOuts" "[I") (by decide +kernel)) rfl rfl rfl rfl rfl dX8_init_188 ?_
  have fr := Fr.uR (i := 134) (k := 42) (j := 156) fr (by omega) (by omega)
  refine g_aload_n C dX8_init_191 rfl ?_
  refine g_bipush (v := 7) C dX8_init_192 (by decide) ?_
  refine g_newa (at9 := .int) (N := 7) C V (Or.inl ⟨(by rw [n_22]; exact rfl), rfl⟩) (by rw [n_22]; exact rfl) (by rw [n_22]; exact fr) (hts (.arrayClass .int) (by decide +kernel)) (by decide) (by decide) (by decide) (by decide) dX8_init_194 (fun w_23 e_23 n_23 => ?_)
  rw [n_22] at n_23
  rw [← e_23.2 134 (by rw [n_22]; omega)]
  rw [n_22]
  have fr := fr.mono (m := 158) (by omega)
  refine g_putF (i := 134) (j := 157) C V F8 (by rw [n_23]; omega) rfl (by decide) 43 (by decide) rfl (hts (.fieldLink RX8 82 "FallBenchModel" "look" "[I") (by decide +kernel)) rfl rfl rfl rfl rfl dX8_init_196 ?_
  have fr := Fr.uR (i := 134) (k := 43) (j := 157) fr (by omega) (by omega)
  refine g_aload_n C dX8_init_199 rfl ?_
  refine g_bipush (v := 30) C dX8_init_200 (by decide) ?_
  refine g_newa (at9 := .int) (N := 30) C V (Or.inl ⟨(by rw [n_23]; exact rfl), rfl⟩) (by rw [n_23]; exact rfl) (by rw [n_23]; exact fr) (hts (.arrayClass .int) (by decide +kernel)) (by decide) (by decide) (by decide) (by decide) dX8_init_202 (fun w_24 e_24 n_24 => ?_)
  rw [n_23] at n_24
  rw [← e_24.2 134 (by rw [n_23]; omega)]
  rw [n_23]
  have fr := fr.mono (m := 159) (by omega)
  refine g_putF (i := 134) (j := 158) C V F8 (by rw [n_24]; omega) rfl (by decide) 45 (by decide) rfl (hts (.fieldLink RX8 85 "FallBenchModel" "cEnd" "[I") (by decide +kernel)) rfl rfl rfl rfl rfl dX8_init_204 ?_
  have fr := Fr.uR (i := 134) (k := 45) (j := 158) fr (by omega) (by omega)
  refine g_aload_n C dX8_init_207 rfl ?_
  refine g_bipush (v := 30) C dX8_init_208 (by decide) ?_
  refine g_newa (at9 := .int) (N := 30) C V (Or.inl ⟨(by rw [n_24]; exact rfl), rfl⟩) (by rw [n_24]; exact rfl) (by rw [n_24]; exact fr) (hts (.arrayClass .int) (by decide +kernel)) (by decide) (by decide) (by decide) (by decide) dX8_init_210 (fun w_25 e_25 n_25 => ?_)
  rw [n_24] at n_25
  rw [← e_25.2 134 (by rw [n_24]; omega)]
  rw [n_24]
  have fr := fr.mono (m := 160) (by omega)
  refine g_putF (i := 134) (j := 159) C V F8 (by rw [n_25]; omega) rfl (by decide) 46 (by decide) rfl (hts (.fieldLink RX8 88 "FallBenchModel" "cAct" "[I") (by decide +kernel)) rfl rfl rfl rfl rfl dX8_init_212 ?_
  have fr := Fr.uR (i := 134) (k := 46) (j := 159) fr (by omega) (by omega)
  refine g_aload_n C dX8_init_215 rfl ?_
  refine g_bipush (v := 30) C dX8_init_216 (by decide) ?_
  refine g_newa (at9 := .int) (N := 30) C V (Or.inl ⟨(by rw [n_25]; exact rfl), rfl⟩) (by rw [n_25]; exact rfl) (by rw [n_25]; exact fr) (hts (.arrayClass .int) (by decide +kernel)) (by decide) (by decide) (by decide) (by decide) dX8_init_218 (fun w_26 e_26 n_26 => ?_)
  rw [n_25] at n_26
  rw [← e_26.2 134 (by rw [n_25]; omega)]
  rw [n_25]
  have fr := fr.mono (m := 161) (by omega)
  refine g_putF (i := 134) (j := 160) C V F8 (by rw [n_26]; omega) rfl (by decide) 47 (by decide) rfl (hts (.fieldLink RX8 91 "FallBenchModel" "cMaker" "[I") (by decide +kernel)) rfl rfl rfl rfl rfl dX8_init_220 ?_
  have fr := Fr.uR (i := 134) (k := 47) (j := 160) fr (by omega) (by omega)
  refine g_aload_n C dX8_init_223 rfl ?_
  refine g_bipush (v := 30) C dX8_init_224 (by decide) ?_
  refine g_newa (at9 := .int) (N := 30) C V (Or.inl ⟨(by rw [n_26]; exact rfl), rfl⟩) (by rw [n_26]; exact rfl) (by rw [n_26]; exact fr) (hts (.arrayClass .int) (by decide +kernel)) (by decide) (by decide) (by decide) (by decide) dX8_init_226 (fun w_27 e_27 n_27 => ?_)
  rw [n_26] at n_27
  rw [← e_27.2 134 (by rw [n_26]; omega)]
  rw [n_26]
  have fr := fr.mono (m := 162) (by omega)
  refine g_putF (i := 134) (j := 161) C V F8 (by rw [n_27]; omega) rfl (by decide) 48 (by decide) rfl (hts (.fieldLink RX8 94 "FallBenchModel" "cHeap" "[I") (by decide +kernel)) rfl rfl rfl rfl rfl dX8_init_228 ?_
  have fr := Fr.uR (i := 134) (k := 48) (j := 161) fr (by omega) (by omega)
  refine g_aload_n C dX8_init_231 rfl ?_
  refine g_bipush (v := 30) C dX8_init_232 (by decide) ?_
  refine g_newa (at9 := .int) (N := 30) C V (Or.inl ⟨(by rw [n_27]; exact rfl), rfl⟩) (by rw [n_27]; exact rfl) (by rw [n_27]; exact fr) (hts (.arrayClass .int) (by decide +kernel)) (by decide) (by decide) (by decide) (by decide) dX8_init_234 (fun w_28 e_28 n_28 => ?_)
  rw [n_27] at n_28
  rw [← e_28.2 134 (by rw [n_27]; omega)]
  rw [n_27]
  have fr := fr.mono (m := 163) (by omega)
  refine g_putF (i := 134) (j := 162) C V F8 (by rw [n_28]; omega) rfl (by decide) 49 (by decide) rfl (hts (.fieldLink RX8 97 "FallBenchModel" "hFirst" "[I") (by decide +kernel)) rfl rfl rfl rfl rfl dX8_init_236 ?_
  have fr := Fr.uR (i := 134) (k := 49) (j := 162) fr (by omega) (by omega)
  refine g_aload_n C dX8_init_239 rfl ?_
  refine g_bipush (v := 24) C dX8_init_240 (by decide) ?_
  refine g_newa (at9 := .int) (N := 24) C V (Or.inl ⟨(by rw [n_28]; exact rfl), rfl⟩) (by rw [n_28]; exact rfl) (by rw [n_28]; exact fr) (hts (.arrayClass .int) (by decide +kernel)) (by decide) (by decide) (by decide) (by decide) dX8_init_242 (fun w_29 e_29 n_29 => ?_)
  rw [n_28] at n_29
  rw [← e_29.2 134 (by rw [n_28]; omega)]
  rw [n_28]
  have fr := fr.mono (m := 164) (by omega)
  refine g_putF (i := 134) (j := 163) C V F8 (by rw [n_29]; omega) rfl (by decide) 51 (by decide) rfl (hts (.fieldLink RX8 100 "FallBenchModel" "smallBytes" "[I") (by decide +kernel)) rfl rfl rfl rfl rfl dX8_init_244 ?_
  have fr := Fr.uR (i := 134) (k := 51) (j := 163) fr (by omega) (by omega)
  refine g_aload_n C dX8_init_247 rfl ?_
  refine g_bipush (v := 24) C dX8_init_248 (by decide) ?_
  refine g_newa (at9 := .int) (N := 24) C V (Or.inl ⟨(by rw [n_29]; exact rfl), rfl⟩) (by rw [n_29]; exact rfl) (by rw [n_29]; exact fr) (hts (.arrayClass .int) (by decide +kernel)) (by decide) (by decide) (by decide) (by decide) dX8_init_250 (fun w_30 e_30 n_30 => ?_)
  rw [n_29] at n_30
  rw [← e_30.2 134 (by rw [n_29]; omega)]
  rw [n_29]
  have fr := fr.mono (m := 165) (by omega)
  refine g_putF (i := 134) (j := 164) C V F8 (by rw [n_30]; omega) rfl (by decide) 52 (by decide) rfl (hts (.fieldLink RX8 103 "FallBenchModel" "lowBytes" "[I") (by decide +kernel)) rfl rfl rfl rfl rfl dX8_init_252 ?_
  have fr := Fr.uR (i := 134) (k := 52) (j := 164) fr (by omega) (by omega)
  refine g_aload_n C dX8_init_255 rfl ?_
  refine g_iconst (v := (-1)) C dX8_init_256 (by decide) ?_
  refine g_puti (i := 134) C F8 (by rw [n_30]; omega) rfl (by decide) 53 (by decide) rfl (hts (.fieldLink RX8 106 "FallBenchModel" "smallMany" "I") (by decide +kernel)) rfl rfl rfl rfl dX8_init_257 ?_
  have fr := Fr.uM (i := 134) (k := 53) (v := (-1)) fr (by omega)
  refine g_aload_n C dX8_init_260 rfl ?_
  refine g_bipush (v := 40) C dX8_init_261 (by decide) ?_
  refine g_newa (at9 := .int) (N := 40) C V (Or.inl ⟨(by rw [n_30]; exact rfl), rfl⟩) (by rw [n_30]; exact rfl) (by rw [n_30]; exact fr) (hts (.arrayClass .int) (by decide +kernel)) (by decide) (by decide) (by decide) (by decide) dX8_init_263 (fun w_31 e_31 n_31 => ?_)
  rw [n_30] at n_31
  rw [← e_31.2 134 (by rw [n_30]; omega)]
  rw [n_30]
  have fr := fr.mono (m := 166) (by omega)
  refine g_putF (i := 134) (j := 165) C V F8 (by rw [n_31]; omega) rfl (by decide) 59 (by decide) rfl (hts (.fieldLink RX8 109 "FallBenchModel" "otherOuts" "[I") (by decide +kernel)) rfl rfl rfl rfl rfl dX8_init_265 ?_
  have fr := Fr.uR (i := 134) (k := 59) (j := 165) fr (by omega) (by omega)
  exact g_vret C Rr ⟨rfl, ((((((((((((((((((((((((((((((((gle.rf w).tr e_1).tr e_2).tr e_3).tr e_4).tr e_5).tr e_6).tr e_7).tr e_8).tr e_9).tr e_10).tr e_11).tr e_12).tr e_13).tr e_14).tr e_15).tr e_16).tr e_17).tr e_18).tr e_19).tr e_20).tr e_21).tr e_22).tr e_23).tr e_24).tr e_25).tr e_26).tr e_27).tr e_28).tr e_29).tr e_30).tr e_31), n_31, fr, rfl⟩ dX8_init_268

/-- what the parser's loop over the names has after t letters -/
def txS : Nat → Nat × Int64
  | 0 => (0, 0)
  | t + 1 => if acI t = 32 then ((txS t).1 + 1, 0) else ((txS t).1, f5 (txS t).2 (acI t))
def jTx (J : Nat → Nat → Int64) : Nat → Nat → Nat → Int64
  | 0 => J
  | t + 1 => if acI t = 32 then up2 (jTx J t) 9 (txS t).1 (txS t).2 else jTx J t
theorem txS_lt : ∀ t, t < 62 → (txS t).1 < 14 := by decide +kernel
theorem Fr.text {n : Nat} {M : Nat → Nat → Int32} {J : Nat → Nat → Int64} {R : Nat → Nat → Option Nat} (h : Fr n M J R) (hn : 9 < n) (t : Nat) : Fr n M (jTx J t) R := by
  induction t with
  | zero => exact h
  | succ t ih =>
    show Fr n M (if acI t = 32 then up2 (jTx J t) 9 (txS t).1 (txS t).2 else jTx J t) R
    split
    · exact ih.uJ hn
    · exact ih

set_option maxHeartbeats 4000000 in
set_option maxRecDepth 100000 in
theorem c_X1_init {l : Launch} {D : va_G} {w : gw} {M : Nat → Nat → Int32} {J : Nat → Nat → Int64} {R : Nat → Nat → Option Nat} (hw : w.1 = 5) (fr : Fr 4 M J R) : Cg l yX1_init wsX1_init ({ frames := 4, cells := 14, slots := 3546, locals := 85 } : Room) D w [.ref (w.2.1 4)] (M, J, R) 14 3546 (fun v w' u => v = none ∧ gle w w' ∧ w'.1 = 19 ∧ Fr (19) u.1 u.2.1 u.2.2 ∧ u = ((up2 (up2 (up2 (up2 (up2 (up2 M 5 3 0) 4 6 0) 4 7 0) 14 4 0) 4 9 0) 4 10 (-1)), (jTx J 62), (up2 (up2 (up2 (up2 (up2 (up2 (up2 (up2 (up2 (up2 (up2 (up2 (up2 (up2 R 5 0 (some 6)) 5 1 (some 7)) 5 2 (some 8)) 4 0 (some 5)) 4 1 (some 9)) 4 2 (some 10)) 4 3 (some 11)) 4 4 (some 12)) 4 5 (some 13)) 14 0 (some 15)) 14 1 (some 16)) 14 2 (some 17)) 14 3 (some 18)) 4 8 (some 14)))) := by
  have fr := fr.mono (m := 5) (by omega)
  refine Cg.of (own := RX1) (cc := cX1_init) (maxL := 6) (ret := none) 5 (by decide) rfl rfl (Nat.le_of_ble_eq_true rfl) (fun X C hts V Rr => ?_)
  have F5 : FW X 5 := fun q h => hts q (List.mem_cons_of_mem _ (List.mem_append_left _ (List.mem_append_left _ (List.mem_append_right _ h))))
  have F1 : FW X 1 := fun q h => hts q (List.mem_cons_of_mem _ (List.mem_append_left _ (List.mem_append_right _ h)))
  have F2 : FW X 2 := fun q h => hts q (List.mem_cons_of_mem _ (List.mem_append_right _ h))
  show Gj X 0 0 w M J R 0 [some (.ref (w.2.1 4)), none, none, none, none, none] []
  refine g_aload_n C dX1_init_0 rfl ?_
  refine g_objInit C V (hts (.methodLink RX1 3 objectInit) (by decide +kernel)) (hts (.instanceMethod objectInit) (by decide +kernel)) (hts (.code objectInit ⟨#[0xb1]⟩ 1 none) (by decide +kernel)) (by decide) dX1_init_1 ?_
  refine g_aload_n C dX1_init_4 rfl ?_
  refine g_new (ci := 5) (N := 4) C V F5 (by decide) (by rw [hw]; exact rfl) (by rw [hw]; exact fr) (hts (.classLink RX1 9 RX5) (by decide +kernel)) (hts (.instantiable RX5 4) (by decide +kernel)) (hts (.initialized RX5) (by decide +kernel)) rfl (by decide) dX1_init_5 (fun w_1 e_1 n_1 => ?_)
  have frp := fr
  rw [hw] at n_1
  rw [← e_1.2 4 (by rw [hw]; omega)]
  rw [hw]
  have fr := fr.mono (m := 6) (by omega)
  refine g_dup C dX1_init_8 rfl ?_
  refine g_callIN C hts V (i := 5) (gX1_init_X5_init_n11) rfl (gN_X1_11 C.2.2.2.2.2.1) (hts (.instanceMethod yX5_init) (by decide +kernel)) (hts (.initialized RX5) (by decide +kernel)) rfl hdX5_init (by decide) (c_X5_init n_1 frp) rfl rfl (Nat.le_of_ble_eq_true rfl) dX1_init_9 (fun v w_2 M1 J1 R1 h => ?_)
  obtain ⟨v0, e_2, n_2, fr, hu⟩ := h
  subst v0
  cases hu
  have n_2 : w_2.1 = 9 := n_2
  have fr : Fr 9 _ _ _ := fr
  rw [← e_2.2 4 (by rw [n_1]; omega)]
  rw [← e_2.2 5 (by rw [n_1]; omega)]
  refine g_putF (i := 4) (j := 5) C V F1 (by rw [n_2]; omega) rfl (by decide) 0 (by decide) rfl (hts (.fieldLink RX1 12 "FallBench$Parser" "tokens" "LFallBench$Tokens;") (by decide +kernel)) rfl rfl rfl rfl rfl dX1_init_12 ?_
  have fr := Fr.uR (i := 4) (k := 0) (j := 5) fr (by omega) (by omega)
  refine g_aload_n C dX1_init_15 rfl ?_
  refine g_bipush (v := 14) C dX1_init_16 (by decide) ?_
  refine g_newa (at9 := .long) (N := 14) C V (Or.inr (Or.inl ⟨(by rw [n_2]; exact rfl), rfl⟩)) (by rw [n_2]; exact rfl) (by rw [n_2]; exact fr) (hts (.arrayClass .long) (by decide +kernel)) (by decide) (by decide) (by decide) (by decide) dX1_init_18 (fun w_3 e_3 n_3 => ?_)
  rw [n_2] at n_3
  rw [← e_3.2 4 (by rw [n_2]; omega)]
  rw [n_2]
  have fr := fr.mono (m := 10) (by omega)
  refine g_putF (i := 4) (j := 9) C V F1 (by rw [n_3]; omega) rfl (by decide) 1 (by decide) rfl (hts (.fieldLink RX1 18 "FallBench$Parser" "actNames" "[J") (by decide +kernel)) rfl rfl rfl rfl rfl dX1_init_20 ?_
  have fr := Fr.uR (i := 4) (k := 1) (j := 9) fr (by omega) (by omega)
  refine g_aload_n C dX1_init_23 rfl ?_
  refine g_bipush (v := 20) C dX1_init_24 (by decide) ?_
  refine g_newa (at9 := .long) (N := 20) C V (Or.inr (Or.inl ⟨(by rw [n_3]; exact rfl), rfl⟩)) (by rw [n_3]; exact rfl) (by rw [n_3]; exact fr) (hts (.arrayClass .long) (by decide +kernel)) (by decide) (by decide) (by decide) (by decide) dX1_init_26 (fun w_4 e_4 n_4 => ?_)
  rw [n_3] at n_4
  rw [← e_4.2 4 (by rw [n_3]; omega)]
  rw [n_3]
  have fr := fr.mono (m := 11) (by omega)
  refine g_putF (i := 4) (j := 10) C V F1 (by rw [n_4]; omega) rfl (by decide) 2 (by decide) rfl (hts (.fieldLink RX1 22 "FallBench$Parser" "labels" "[J") (by decide +kernel)) rfl rfl rfl rfl rfl dX1_init_28 ?_
  have fr := Fr.uR (i := 4) (k := 2) (j := 10) fr (by omega) (by omega)
  refine g_aload_n C dX1_init_31 rfl ?_
  refine g_bipush (v := 20) C dX1_init_32 (by decide) ?_
  refine g_newa (at9 := .int) (N := 20) C V (Or.inl ⟨(by rw [n_4]; exact rfl), rfl⟩) (by rw [n_4]; exact rfl) (by rw [n_4]; exact fr) (hts (.arrayClass .int) (by decide +kernel)) (by decide) (by decide) (by decide) (by decide) dX1_init_34 (fun w_5 e_5 n_5 => ?_)
  rw [n_4] at n_5
  rw [← e_5.2 4 (by rw [n_4]; omega)]
  rw [n_4]
  have fr := fr.mono (m := 12) (by omega)
  refine g_putF (i := 4) (j := 11) C V F1 (by rw [n_5]; omega) rfl (by decide) 3 (by decide) rfl (hts (.fieldLink RX1 25 "FallBench$Parser" "labelActs" "[I") (by decide +kernel)) rfl rfl rfl rfl rfl dX1_init_36 ?_
  have fr := Fr.uR (i := 4) (k := 3) (j := 11) fr (by omega) (by omega)
  refine g_aload_n C dX1_init_39 rfl ?_
  refine g_bipush (v := 80) C dX1_init_40 (by decide) ?_
  refine g_newa (at9 := .long) (N := 80) C V (Or.inr (Or.inl ⟨(by rw [n_5]; exact rfl), rfl⟩)) (by rw [n_5]; exact rfl) (by rw [n_5]; exact fr) (hts (.arrayClass .long) (by decide +kernel)) (by decide) (by decide) (by decide) (by decide) dX1_init_42 (fun w_6 e_6 n_6 => ?_)
  rw [n_5] at n_6
  rw [← e_6.2 4 (by rw [n_5]; omega)]
  rw [n_5]
  have fr := fr.mono (m := 13) (by omega)
  refine g_putF (i := 4) (j := 12) C V F1 (by rw [n_6]; omega) rfl (by decide) 4 (by decide) rfl (hts (.fieldLink RX1 29 "FallBench$Parser" "wanted" "[J") (by decide +kernel)) rfl rfl rfl rfl rfl dX1_init_44 ?_
  have fr := Fr.uR (i := 4) (k := 4) (j := 12) fr (by omega) (by omega)
  refine g_aload_n C dX1_init_47 rfl ?_
  refine g_bipush (v := 80) C dX1_init_48 (by decide) ?_
  refine g_newa (at9 := .int) (N := 80) C V (Or.inl ⟨(by rw [n_6]; exact rfl), rfl⟩) (by rw [n_6]; exact rfl) (by rw [n_6]; exact fr) (hts (.arrayClass .int) (by decide +kernel)) (by decide) (by decide) (by decide) (by decide) dX1_init_50 (fun w_7 e_7 n_7 => ?_)
  rw [n_6] at n_7
  rw [← e_7.2 4 (by rw [n_6]; omega)]
  rw [n_6]
  have fr := fr.mono (m := 14) (by omega)
  refine g_putF (i := 4) (j := 13) C V F1 (by rw [n_7]; omega) rfl (by decide) 5 (by decide) rfl (hts (.fieldLink RX1 32 "FallBench$Parser" "wantedPlaces" "[I") (by decide +kernel)) rfl rfl rfl rfl rfl dX1_init_52 ?_
  have fr := Fr.uR (i := 4) (k := 5) (j := 13) fr (by omega) (by omega)
  refine g_aload_n C dX1_init_55 rfl ?_
  refine g_iconst (v := 0) C dX1_init_56 (by decide) ?_
  refine g_puti (i := 4) C F1 (by rw [n_7]; omega) rfl (by decide) 6 (by decide) rfl (hts (.fieldLink RX1 35 "FallBench$Parser" "labelCount" "I") (by decide +kernel)) rfl rfl rfl rfl dX1_init_57 ?_
  have fr := Fr.uM (i := 4) (k := 6) (v := 0) fr (by omega)
  refine g_aload_n C dX1_init_60 rfl ?_
  refine g_iconst (v := 0) C dX1_init_61 (by decide) ?_
  refine g_puti (i := 4) C F1 (by rw [n_7]; omega) rfl (by decide) 7 (by decide) rfl (hts (.fieldLink RX1 39 "FallBench$Parser" "at" "I") (by decide +kernel)) rfl rfl rfl rfl dX1_init_62 ?_
  have fr := Fr.uM (i := 4) (k := 7) (v := 0) fr (by omega)
  refine g_aload_n C dX1_init_65 rfl ?_
  refine g_new (ci := 2) (N := 5) C V F2 (by decide) (by rw [n_7]; exact rfl) (by rw [n_7]; exact fr) (hts (.classLink RX1 42 RX2) (by decide +kernel)) (hts (.instantiable RX2 5) (by decide +kernel)) (hts (.initialized RX2) (by decide +kernel)) rfl (by decide) dX1_init_66 (fun w_8 e_8 n_8 => ?_)
  have frp := fr
  rw [n_7] at n_8
  rw [← e_8.2 4 (by rw [n_7]; omega)]
  rw [n_7]
  have fr := fr.mono (m := 15) (by omega)
  refine g_dup C dX1_init_69 rfl ?_
  refine g_callIN C hts V (i := 14) (gX1_init_X2_init_n44) rfl (gN_X1_44 C.2.2.2.2.2.1) (hts (.instanceMethod yX2_init) (by decide +kernel)) (hts (.initialized RX2) (by decide +kernel)) rfl hdX2_init (by decide) (c_X2_init (i := 14) n_8 frp ⟨rfl, rfl, rfl, rfl, rfl, rfl, rfl, rfl, rfl⟩) rfl rfl (Nat.le_of_ble_eq_true rfl) dX1_init_70 (fun v w_9 M1 J1 R1 h => ?_)
  obtain ⟨v0, e_9, n_9, fr, hu⟩ := h
  subst v0
  cases hu
  have n_9 : w_9.1 = 19 := n_9
  have fr : Fr 19 _ _ _ := fr
  rw [← e_9.2 4 (by rw [n_8]; omega)]
  rw [← e_9.2 14 (by rw [n_8]; omega)]
  refine g_putr (i := 4) (j := 14) C F1 (by rw [n_9]; omega) rfl (by decide) 8 (by decide) rfl (hts (.fieldLink RX1 45 "FallBench$Parser" "into" "LFallBench$Program;") (by decide +kernel)) rfl rfl rfl rfl dX1_init_73 ?_
  have fr := Fr.uR (i := 4) (k := 8) (j := 14) fr (by omega) (by omega)
  refine g_aload_n C dX1_init_76 rfl ?_
  refine g_iconst (v := 0) C dX1_init_77 (by decide) ?_
  refine g_puti (i := 4) C F1 (by rw [n_9]; omega) rfl (by decide) 9 (by decide) rfl (hts (.fieldLink RX1 49 "FallBench$Parser" "faultKind" "I") (by decide +kernel)) rfl rfl rfl rfl dX1_init_78 ?_
  have fr := Fr.uM (i := 4) (k := 9) (v := 0) fr (by omega)
  refine g_aload_n C dX1_init_81 rfl ?_
  refine g_iconst (v := (-1)) C dX1_init_82 (by decide) ?_
  refine g_puti (i := 4) C F1 (by rw [n_9]; omega) rfl (by decide) 10 (by decide) rfl (hts (.fieldLink RX1 52 "FallBench$Parser" "faultPlace" "I") (by decide +kernel)) rfl rfl rfl rfl dX1_init_83 ?_
  have fr := Fr.uM (i := 4) (k := 10) (v := (-1)) fr (by omega)
  obtain ⟨⟨adK, adV, hS, hRr⟩, hZ, hQ⟩ := C.2.2.2.2.2.2.2
  have hXT : ExT adK adV (x_A X) (x_s X) (x_s X).heap := ⟨hS, hZ, hQ⟩
  have loop : ∀ dd t z, t + dd = 62 → Gj X 14 3546 w_9 (up2 (up2 (up2 (up2 (up2 (up2 M 5 3 0) 4 6 0) 4 7 0) 14 4 0) 4 9 0) 4 10 (-1)) (jTx J t) (up2 (up2 (up2 (up2 (up2 (up2 (up2 (up2 (up2 (up2 (up2 (up2 (up2 (up2 R 5 0 (some 6)) 5 1 (some 7)) 5 2 (some 8)) 4 0 (some 5)) 4 1 (some 9)) 4 2 (some 10)) 4 3 (some 11)) 4 4 (some 12)) 4 5 (some 13)) 14 0 (some 15)) 14 1 (some 16)) 14 2 (some 17)) 14 3 (some 18)) 4 8 (some 14)) 93 [some (.ref (w_9.2.1 4)), some (.int (nI (txS t).1)), some (.long (txS t).2), none, some (.int (nI t)), z] [] := by
    intro dd
    induction dd with
    | zero =>
      intro t z ht
      obtain rfl : t = 62 := by omega
      refine g_iload C dX1_init_93 rfl ?_
      refine g_ldcS C hRr dX1_init_95 ?_
      refine g_callTE (okE_T adK adV) hXT hS C hts V (gX1_init_J0_length_8abf5) rfl hdJ0_length_8abf5 (by decide) c_J0_length_8abf5 rfl rfl (Nat.le_of_ble_eq_true rfl) dX1_init_97 ?_
      refine g_icmp_ge (tgt := 153) C dX1_init_100 (by decide) (fun _ => ?_) (fun z => absurd (by decide) z)
      exact g_vret C Rr ⟨rfl, ((((((((((gle.rf w).tr e_1).tr e_2).tr e_3).tr e_4).tr e_5).tr e_6).tr e_7).tr e_8).tr e_9), n_9, fr.text (by decide) 62, rfl⟩ dX1_init_153
    | succ dd ih =>
      intro t z ht
      have h14 := txS_lt t (by omega)
      refine g_iload C dX1_init_93 rfl ?_
      refine g_ldcS C hRr dX1_init_95 ?_
      refine g_callTE (okE_T adK adV) hXT hS C hts V (gX1_init_J0_length_8abf5) rfl hdJ0_length_8abf5 (by decide) c_J0_length_8abf5 rfl rfl (Nat.le_of_ble_eq_true rfl) dX1_init_97 ?_
      refine g_icmp_ge (tgt := 153) C dX1_init_100 (by decide) (fun z => absurd z (nI_ge (b := 62) (by omega) (by decide))) (fun _ => ?_)
      refine g_iload_n C dX1_init_103 rfl ?_
      refine g_bipush (v := 14) C dX1_init_104 (by decide) ?_
      refine g_icmp_ge (tgt := 153) C dX1_init_106 (by decide) (fun z => absurd z (nI_ge (b := 14) h14 (by decide))) (fun _ => ?_)
      refine g_ldcS C hRr dX1_init_109 ?_
      refine g_iload C dX1_init_111 rfl ?_
      refine g_callTE (okE_T adK adV) hXT hS C hts V (gX1_init_J0_charAt_5068e) rfl hdJ0_charAt_5068e (by decide) (c_J0_charAt_5068e (t := t) (by omega)) rfl rfl (Nat.le_of_ble_eq_true rfl) dX1_init_113 ?_
      refine g_istore C V.2.1 dX1_init_116 (by decide) rfl ?_
      refine g_iload C dX1_init_118 rfl ?_
      refine g_bipush (v := 32) C dX1_init_120 (by decide) ?_
      refine g_icmp_ne (tgt := 140) C dX1_init_122 (by decide) (fun c => ?_) (fun c => ?_)
      · refine g_lload_n C dX1_init_140 rfl ?_
        refine g_iload C dX1_init_141 rfl ?_
        refine g_callNf C hts V (gX1_init_X7_withLetter_n67) rfl (gN_X1_67 C.2.2.2.2.2.1) (hts (.static yX7_withLetter) (by decide +kernel)) (hts (.initialized RX7) (by decide +kernel)) hdX7_withLetter (by decide) c_X7_withLetter rfl rfl (Nat.le_of_ble_eq_true rfl) dX1_init_143 ?_
        refine g_lstore_n C V.2.1 dX1_init_146 (by decide) rfl ?_
        refine g_iinc (v := nI (t + 1)) C V.2.1 dX1_init_147 rfl (nI_succ t).symm (by decide) rfl ?_
        refine g_goto (tgt := 93) C dX1_init_150 (by decide) ?_
        have h9 := ih (t + 1) (some (.int (acI t))) (by omega)
        rw [show jTx J (t + 1) = jTx J t from if_neg c, show txS (t + 1) = ((txS t).1, f5 (txS t).2 (acI t)) from if_neg c] at h9
        exact h9
      · refine g_aload_n C dX1_init_125 rfl ?_
        refine g_getr (j := 9) C F1 (by rw [n_9]; omega) rfl (by decide) 1 (by decide) rfl (hts (.fieldLink RX1 18 "FallBench$Parser" "actNames" "[J") (by decide +kernel)) rfl rfl dX1_init_126 ?_
        refine g_iload_n C dX1_init_129 rfl ?_
        refine g_lload_n C dX1_init_130 rfl ?_
        refine g_last (i := 9) C (by rw [n_9]; omega) rfl (vp_in_nI (N := 14) h14 (by decide)) dX1_init_131 ?_
        rw [nI_clamp (show (txS t).1 < 2 ^ 31 by omega)]
        refine g_iinc (v := nI ((txS t).1 + 1)) C V.2.1 dX1_init_132 rfl (nI_succ _).symm (by decide) rfl ?_
        refine g_lconst (v := 0) C dX1_init_135 (by decide) ?_
        refine g_lstore_n C V.2.1 dX1_init_136 (by decide) rfl ?_
        refine g_goto (tgt := 147) C dX1_init_137 (by decide) ?_
        refine g_iinc (v := nI (t + 1)) C V.2.1 dX1_init_147 rfl (nI_succ t).symm (by decide) rfl ?_
        refine g_goto (tgt := 93) C dX1_init_150 (by decide) ?_
        have h9 := ih (t + 1) (some (.int (acI t))) (by omega)
        rw [show jTx J (t + 1) = up2 (jTx J t) 9 (txS t).1 (txS t).2 from if_pos c, show txS (t + 1) = ((txS t).1 + 1, 0) from if_pos c] at h9
        exact h9
  refine g_iconst (v := 0) C dX1_init_86 (by decide) ?_
  refine g_istore_n C V.2.1 dX1_init_87 (by decide) rfl ?_
  refine g_lconst (v := 0) C dX1_init_88 (by decide) ?_
  refine g_lstore_n C V.2.1 dX1_init_89 (by decide) rfl ?_
  refine g_iconst (v := 0) C dX1_init_90 (by decide) ?_
  refine g_istore C V.2.1 dX1_init_91 (by decide) rfl ?_
  exact loop 62 0 none (by decide)
