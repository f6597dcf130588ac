/-! THE REFERENCE'S PARSER: its leaves -/
def txM (M : Nat → Nat → Int32) (T : List Int32) : Prop := M 134 3 = nI T.length ∧ ∀ k, k < T.length → M 136 k &&& 255 = T.getD k 0
def kwn (v : Int64) : Int32 := if v = 26990 then 0 else if v = 7562612 then 1 else if v = 1668247673 then 2 else if v = 6382692 then 3 else if v = 7566690 then 4 else if v = 7173484 then 5 else if v = 1819238756 then 6 else if v = 495874699877 then 7 else if v = 1818588019 then 8 else if v = 1935764837 then 9 else if v = 26479 then 10 else if v = 1786080624 then 11 else if v = 7304564 then 12 else if v = 1937010544 then 13 else -1
theorem kwn_is {W : List Int32} (hW : okW W) : kwn (enc8 W) = kwd W := by
  have hc : ∀ k, k < 14 → kwn (enc8 (nm k)) = nI k := by decide +kernel
  rcases kwd_cases W with ⟨h1, h2⟩ | ⟨k, h1, h2, h3⟩
  · rw [h1]
    have ne : ∀ k, k < 14 → ∀ v, enc8 (nm k) = v → ¬ enc8 W = v := fun k hk v hv z => h2 k hk (enc8_inj (nm_ok k hk) hW (hv.trans z.symm))
    unfold kwn
    rw [if_neg (ne 0 (by decide) _ (by decide +kernel)), if_neg (ne 1 (by decide) _ (by decide +kernel)), if_neg (ne 2 (by decide) _ (by decide +kernel)), if_neg (ne 3 (by decide) _ (by decide +kernel)), if_neg (ne 4 (by decide) _ (by decide +kernel)), if_neg (ne 5 (by decide) _ (by decide +kernel)), if_neg (ne 6 (by decide) _ (by decide +kernel)), if_neg (ne 7 (by decide) _ (by decide +kernel)), if_neg (ne 8 (by decide) _ (by decide +kernel)), if_neg (ne 9 (by decide) _ (by decide +kernel)), if_neg (ne 10 (by decide) _ (by decide +kernel)), if_neg (ne 11 (by decide) _ (by decide +kernel)), if_neg (ne 12 (by decide) _ (by decide +kernel)), if_neg (ne 13 (by decide) _ (by decide +kernel))]
  · rw [h2, ← h3, hc k h1]

set_option maxHeartbeats 4000000 in
set_option maxRecDepth 100000 in
theorem c_X8_sign {l : Launch} {D : va_G} {w : gw} {M : Nat → Nat → Int32} {J : Nat → Nat → Int64} {R : Nat → Nat → Option Nat} (hw : w.1 = 166) (hR : LayM R) {T : List Int32} (hX : okX T) (hx : txM M T) {p : Nat} (hp : p < 2 ^ 31) : Cf l yX8_sign wsX8_sign ({ frames := 0, cells := 0, slots := 0, locals := 0 } : Room) D w [.ref (w.2.1 134), .int (nI p)] M J R (some (.int (T.getD p 0))) M J R := by
  refine Cg.of (own := RX8) (cc := cX8_sign) (maxL := 2) (ret := (some .int)) 0 (by decide) rfl rfl (Nat.le_of_ble_eq_true rfl) (fun X C hts V Rr => ?_)
  have F8 : FW X 8 := fun q h => hts q (List.mem_cons_of_mem _ (List.mem_append_right _ h))
  show Gj X 0 0 w M J R 0 [some (.ref (w.2.1 134)), some (.int (nI p))] []
  refine g_iload_n C dX8_sign_0 rfl ?_
  refine g_aload_n C dX8_sign_1 rfl ?_
  refine g_geti (v := nI T.length) C F8 (by rw [hw]; decide) rfl (by decide) 3 (by decide) rfl (hts (.fieldLink RX8 112 "FallBenchModel" "size" "I") (by decide +kernel)) rfl hx.1 dX8_sign_2 ?_
  refine g_icmp_ge (tgt := 21) C dX8_sign_5 (by decide) (fun c5 => ?_) (fun c5 => ?_)
  · refine g_iconst (v := 0) C dX8_sign_21 (by decide) ?_
    exact g_iret C Rr ⟨rfl, ⟨by rw [getD_ge ((nI_leI (by have := hX.1; omega) hp).mp c5)], rfl⟩⟩ dX8_sign_22
  · have hlt : p < T.length := by
      have h1 := hX.1
      exact (nI_ltI hp (by omega)).mp (lt_of_nle c5)
    refine g_aload_n C dX8_sign_8 rfl ?_
    refine g_getr (j := 136) C F8 (by rw [hw]; decide) rfl (by decide) 1 (by decide) rfl (hts (.fieldLink RX8 13 "FallBenchModel" "text" "[B") (by decide +kernel)) rfl (hR (1, 136) (by decide)) dX8_sign_9 ?_
    refine g_iload_n C dX8_sign_12 rfl ?_
    refine g_bald (v := M 136 p) C (by rw [hw]; decide) rfl (vp_in_nI (N := 1000) (by have := hX.1; omega) (by decide)) (by rw [nI_clamp hp]) dX8_sign_13 ?_
    refine g_sipush (v := 255) C dX8_sign_14 (by decide) ?_
    refine g_iand C dX8_sign_17 ?_
    refine g_goto (tgt := 22) C dX8_sign_18 (by decide) ?_
    exact g_iret C Rr ⟨rfl, ⟨by rw [hx.2 p hlt], rfl⟩⟩ dX8_sign_22

set_option maxHeartbeats 4000000 in
set_option maxRecDepth 100000 in
theorem c_X8_fails {l : Launch} {D : va_G} {w : gw} {M : Nat → Nat → Int32} {J : Nat → Nat → Int64} {R : Nat → Nat → Option Nat} (hw : w.1 = 166) (hR : LayM R) {k p : Int32} (h0 : M 134 4 = 0) : Cf l yX8_fails wsX8_fails ({ frames := 0, cells := 0, slots := 0, locals := 0 } : Room) D w [.ref (w.2.1 134), .int k, .int p] M J R none (up2 (up2 M 134 4 k) 134 5 p) J R := by
  refine Cg.of (own := RX8) (cc := cX8_fails) (maxL := 3) (ret := none) 0 (by decide) rfl rfl (Nat.le_of_ble_eq_true rfl) (fun X C hts V Rr => ?_)
  have F8 : FW X 8 := fun q h => hts q (List.mem_cons_of_mem _ (List.mem_append_right _ h))
  show Gj X 0 0 w M J R 0 [some (.ref (w.2.1 134)), some (.int k), some (.int p)] []
  refine g_aload_n C dX8_fails_0 rfl ?_
  refine g_geti (v := 0) C F8 (by rw [hw]; decide) rfl (by decide) 4 (by decide) rfl (hts (.fieldLink RX8 115 "FallBenchModel" "faultKind" "I") (by decide +kernel)) rfl h0 dX8_fails_1 ?_
  refine g_if_le (tgt := 8) C dX8_fails_4 (by decide) (fun c4 => ?_) (fun c4 => absurd c4 (not_not_intro (by decide)))
  refine g_aload_n C dX8_fails_8 rfl ?_
  refine g_iload_n C dX8_fails_9 rfl ?_
  refine g_puti C F8 (by rw [hw]; decide) rfl (by decide) 4 (by decide) rfl (hts (.fieldLink RX8 115 "FallBenchModel" "faultKind" "I") (by decide +kernel)) rfl rfl rfl rfl dX8_fails_10 ?_
  refine g_aload_n C dX8_fails_13 rfl ?_
  refine g_iload_n C dX8_fails_14 rfl ?_
  refine g_puti C F8 (by rw [hw]; decide) rfl (by decide) 5 (by decide) rfl (hts (.fieldLink RX8 16 "FallBenchModel" "faultPlace" "I") (by decide +kernel)) rfl rfl rfl rfl dX8_fails_15 ?_
  exact g_vret C Rr ⟨rfl, ⟨rfl, rfl⟩⟩ dX8_fails_18

set_option maxHeartbeats 4000000 in
set_option maxRecDepth 100000 in
theorem c_X8_isGood {l : Launch} {D : va_G} {w : gw} {M : Nat → Nat → Int32} {J : Nat → Nat → Int64} {R : Nat → Nat → Option Nat} (hw : w.1 = 166) (hR : LayM R) : Cf l yX8_isGood wsX8_isGood ({ frames := 0, cells := 0, slots := 0, locals := 0 } : Room) D w [.ref (w.2.1 134)] M J R (some (.int (if M 134 4 = 0 then 1 else 0))) M J R := by
  refine Cg.of (own := RX8) (cc := cX8_isGood) (maxL := 1) (ret := (some .boolean)) 0 (by decide) rfl rfl (Nat.le_of_ble_eq_true rfl) (fun X C hts V Rr => ?_)
  have F8 : FW X 8 := fun q h => hts q (List.mem_cons_of_mem _ (List.mem_append_right _ h))
  show Gj X 0 0 w M J R 0 [some (.ref (w.2.1 134))] []
  refine g_aload_n C dX8_isGood_0 rfl ?_
  refine g_geti C F8 (by rw [hw]; decide) rfl (by decide) 4 (by decide) rfl (hts (.fieldLink RX8 115 "FallBenchModel" "faultKind" "I") (by decide +kernel)) rfl rfl dX8_isGood_1 ?_
  refine g_if_ne (tgt := 11) C dX8_isGood_4 (by decide) (fun c4 => ?_) (fun c4 => ?_)
  · refine g_iconst (v := 0) C dX8_isGood_11 (by decide) ?_
    exact g_zret C Rr rfl ⟨rfl, ⟨by simp only [if_neg c4], rfl⟩⟩ dX8_isGood_12
  · refine g_iconst (v := 1) C dX8_isGood_7 (by decide) ?_
    refine g_goto (tgt := 12) C dX8_isGood_8 (by decide) ?_
    exact g_zret C Rr rfl ⟨rfl, ⟨by simp only [if_pos c4], rfl⟩⟩ dX8_isGood_12

set_option maxHeartbeats 4000000 in
set_option maxRecDepth 100000 in
theorem c_X8_wrong {l : Launch} {D : va_G} {w : gw} {M : Nat → Nat → Int32} {J : Nat → Nat → Int64} {R : Nat → Nat → Option Nat} (hw : w.1 = 166) (hR : LayM R) (h0 : M 134 4 = 0) : Cf l yX8_wrong wsX8_wrong ({ frames := 1, cells := 0, slots := 0, locals := 22 } : Room) D w [.ref (w.2.1 134)] M J R none (up2 (up2 M 134 4 (if M 134 8 = 1 then 1 else 2)) 134 5 (M 134 6)) J R := by
  refine Cg.of (own := RX8) (cc := cX8_wrong) (maxL := 1) (ret := none) 0 (by decide) rfl rfl (Nat.le_of_ble_eq_true rfl) (fun X C hts V Rr => ?_)
  have F8 : FW X 8 := fun q h => hts q (List.mem_cons_of_mem _ (List.mem_append_right _ h))
  show Gj X 0 0 w M J R 0 [some (.ref (w.2.1 134))] []
  refine g_aload_n C dX8_wrong_0 rfl ?_
  refine g_aload_n C dX8_wrong_1 rfl ?_
  refine g_geti C F8 (by rw [hw]; decide) rfl (by decide) 8 (by decide) rfl (hts (.fieldLink RX8 128 "FallBenchModel" "token" "I") (by decide +kernel)) rfl rfl dX8_wrong_2 ?_
  refine g_iconst (v := 1) C dX8_wrong_5 (by decide) ?_
  refine g_icmp_ne (tgt := 13) C dX8_wrong_6 (by decide) (fun c6 => ?_) (fun c6 => ?_)
  · refine g_iconst (v := 2) C dX8_wrong_13 (by decide) ?_
    refine g_aload_n C dX8_wrong_14 rfl ?_
    refine g_geti C F8 (by rw [hw]; decide) rfl (by decide) 6 (by decide) rfl (hts (.fieldLink RX8 121 "FallBenchModel" "at" "I") (by decide +kernel)) rfl rfl dX8_wrong_15 ?_
    refine g_callVf C hts V (i := 134) (gX8_wrong_X8_fails) rfl hdX8_fails (by decide) (c_X8_fails hw hR h0) (by rw [hw]; decide) rfl (by decide) rfl rfl (Nat.le_of_ble_eq_true rfl) dX8_wrong_18 ?_
    exact g_vret C Rr ⟨rfl, ⟨rfl, by rw [if_neg c6]⟩⟩ dX8_wrong_21
  · refine g_iconst (v := 1) C dX8_wrong_9 (by decide) ?_
    refine g_goto (tgt := 14) C dX8_wrong_10 (by decide) ?_
    refine g_aload_n C dX8_wrong_14 rfl ?_
    refine g_geti C F8 (by rw [hw]; decide) rfl (by decide) 6 (by decide) rfl (hts (.fieldLink RX8 121 "FallBenchModel" "at" "I") (by decide +kernel)) rfl rfl dX8_wrong_15 ?_
    refine g_callVf C hts V (i := 134) (gX8_wrong_X8_fails) rfl hdX8_fails (by decide) (c_X8_fails hw hR h0) (by rw [hw]; decide) rfl (by decide) rfl rfl (Nat.le_of_ble_eq_true rfl) dX8_wrong_18 ?_
    exact g_vret C Rr ⟨rfl, ⟨rfl, by rw [if_pos c6]⟩⟩ dX8_wrong_21

set_option maxHeartbeats 4000000 in
set_option maxRecDepth 100000 in
theorem c_X8_actHere {l : Launch} {D : va_G} {w : gw} {M : Nat → Nat → Int32} {J : Nat → Nat → Int64} {R : Nat → Nat → Option Nat} (hw : w.1 = 166) (hR : LayM R) : Cf l yX8_actHere wsX8_actHere ({ frames := 0, cells := 0, slots := 0, locals := 0 } : Room) D w [.ref (w.2.1 134)] M J R (some (.int (if M 134 8 = 2 then kwn (J 134 10) else -1))) M J R := by
  refine Cg.of (own := RX8) (cc := cX8_actHere) (maxL := 2) (ret := (some .int)) 1 (by decide) rfl rfl (Nat.le_of_ble_eq_true rfl) (fun X C hts V Rr => ?_)
  have F8 : FW X 8 := fun q h => hts q (List.mem_cons_of_mem _ (List.mem_append_right _ h))
  show Gj X 0 0 w M J R 0 [some (.ref (w.2.1 134)), none] []
  refine g_aload_n C dX8_actHere_0 rfl ?_
  refine g_geti C F8 (by rw [hw]; decide) rfl (by decide) 8 (by decide) rfl (hts (.fieldLink RX8 128 "FallBenchModel" "token" "I") (by decide +kernel)) rfl rfl dX8_actHere_1 ?_
  refine g_iconst (v := 2) C dX8_actHere_4 (by decide) ?_
  refine g_icmp_eq (tgt := 10) C dX8_actHere_5 (by decide) (fun c5 => ?_) (fun c5 => ?_)
  · refine g_aload_n C dX8_actHere_10 rfl ?_
    refine g_getl C F8 (by rw [hw]; decide) rfl (by decide) 10 (by decide) rfl (hts (.fieldLink RX8 141 "FallBenchModel" "name" "J") (by decide +kernel)) rfl rfl dX8_actHere_11 ?_
    refine g_ldc2 C (hts (.constantLong RX8 153 (26990)) (by decide +kernel)) dX8_actHere_14 ?_
    refine g_lcmp C dX8_actHere_17 ?_
    refine g_if_ne (tgt := 25) C dX8_actHere_18 (by decide) (fun c18 => ?_) (fun c18 => ?_)
    · refine g_aload_n C dX8_actHere_25 rfl ?_
      refine g_getl C F8 (by rw [hw]; decide) rfl (by decide) 10 (by decide) rfl (hts (.fieldLink RX8 141 "FallBenchModel" "name" "J") (by decide +kernel)) rfl rfl dX8_actHere_26 ?_
      refine g_ldc2 C (hts (.constantLong RX8 155 (7562612)) (by decide +kernel)) dX8_actHere_29 ?_
      refine g_lcmp C dX8_actHere_32 ?_
      refine g_if_ne (tgt := 40) C dX8_actHere_33 (by decide) (fun c33 => ?_) (fun c33 => ?_)
      · refine g_aload_n C dX8_actHere_40 rfl ?_
        refine g_getl C F8 (by rw [hw]; decide) rfl (by decide) 10 (by decide) rfl (hts (.fieldLink RX8 141 "FallBenchModel" "name" "J") (by decide +kernel)) rfl rfl dX8_actHere_41 ?_
        refine g_ldc2 C (hts (.constantLong RX8 157 (1668247673)) (by decide +kernel)) dX8_actHere_44 ?_
        refine g_lcmp C dX8_actHere_47 ?_
        refine g_if_ne (tgt := 55) C dX8_actHere_48 (by decide) (fun c48 => ?_) (fun c48 => ?_)
        · refine g_aload_n C dX8_actHere_55 rfl ?_
          refine g_getl C F8 (by rw [hw]; decide) rfl (by decide) 10 (by decide) rfl (hts (.fieldLink RX8 141 "FallBenchModel" "name" "J") (by decide +kernel)) rfl rfl dX8_actHere_56 ?_
          refine g_ldc2 C (hts (.constantLong RX8 159 (6382692)) (by decide +kernel)) dX8_actHere_59 ?_
          refine g_lcmp C dX8_actHere_62 ?_
          refine g_if_ne (tgt := 70) C dX8_actHere_63 (by decide) (fun c63 => ?_) (fun c63 => ?_)
          · refine g_aload_n C dX8_actHere_70 rfl ?_
            refine g_getl C F8 (by rw [hw]; decide) rfl (by decide) 10 (by decide) rfl (hts (.fieldLink RX8 141 "FallBenchModel" "name" "J") (by decide +kernel)) rfl rfl dX8_actHere_71 ?_
            refine g_ldc2 C (hts (.constantLong RX8 161 (7566690)) (by decide +kernel)) dX8_actHere_74 ?_
            refine g_lcmp C dX8_actHere_77 ?_
            refine g_if_ne (tgt := 85) C dX8_actHere_78 (by decide) (fun c78 => ?_) (fun c78 => ?_)
            · refine g_aload_n C dX8_actHere_85 rfl ?_
              refine g_getl C F8 (by rw [hw]; decide) rfl (by decide) 10 (by decide) rfl (hts (.fieldLink RX8 141 "FallBenchModel" "name" "J") (by decide +kernel)) rfl rfl dX8_actHere_86 ?_
              refine g_ldc2 C (hts (.constantLong RX8 163 (7173484)) (by decide +kernel)) dX8_actHere_89 ?_
              refine g_lcmp C dX8_actHere_92 ?_
              refine g_if_ne (tgt := 100) C dX8_actHere_93 (by decide) (fun c93 => ?_) (fun c93 => ?_)
              · refine g_aload_n C dX8_actHere_100 rfl ?_
                refine g_getl C F8 (by rw [hw]; decide) rfl (by decide) 10 (by decide) rfl (hts (.fieldLink RX8 141 "FallBenchModel" "name" "J") (by decide +kernel)) rfl rfl dX8_actHere_101 ?_
                refine g_ldc2 C (hts (.constantLong RX8 165 (1819238756)) (by decide +kernel)) dX8_actHere_104 ?_
                refine g_lcmp C dX8_actHere_107 ?_
                refine g_if_ne (tgt := 116) C dX8_actHere_108 (by decide) (fun c108 => ?_) (fun c108 => ?_)
                · refine g_iconst (v := (-1)) C dX8_actHere_116 (by decide) ?_
                  refine g_istore_n C V.2.1 dX8_actHere_117 (by decide) rfl ?_
                  refine g_iload_n C dX8_actHere_118 rfl ?_
                  refine g_if_lt (tgt := 126) C dX8_actHere_119 (by decide) (fun c119 => ?_) (fun c119 => absurd c119 (not_not_intro (by decide)))
                  refine g_aload_n C dX8_actHere_126 rfl ?_
                  refine g_getl C F8 (by rw [hw]; decide) rfl (by decide) 10 (by decide) rfl (hts (.fieldLink RX8 141 "FallBenchModel" "name" "J") (by decide +kernel)) rfl rfl dX8_actHere_127 ?_
                  refine g_ldc2 C (hts (.constantLong RX8 167 (495874699877)) (by decide +kernel)) dX8_actHere_130 ?_
                  refine g_lcmp C dX8_actHere_133 ?_
                  refine g_if_ne (tgt := 142) C dX8_actHere_134 (by decide) (fun c134 => ?_) (fun c134 => ?_)
                  · refine g_aload_n C dX8_actHere_142 rfl ?_
                    refine g_getl C F8 (by rw [hw]; decide) rfl (by decide) 10 (by decide) rfl (hts (.fieldLink RX8 141 "FallBenchModel" "name" "J") (by decide +kernel)) rfl rfl dX8_actHere_143 ?_
                    refine g_ldc2 C (hts (.constantLong RX8 169 (1818588019)) (by decide +kernel)) dX8_actHere_146 ?_
                    refine g_lcmp C dX8_actHere_149 ?_
                    refine g_if_ne (tgt := 158) C dX8_actHere_150 (by decide) (fun c150 => ?_) (fun c150 => ?_)
                    · refine g_aload_n C dX8_actHere_158 rfl ?_
                      refine g_getl C F8 (by rw [hw]; decide) rfl (by decide) 10 (by decide) rfl (hts (.fieldLink RX8 141 "FallBenchModel" "name" "J") (by decide +kernel)) rfl rfl dX8_actHere_159 ?_
                      refine g_ldc2 C (hts (.constantLong RX8 171 (1935764837)) (by decide +kernel)) dX8_actHere_162 ?_
                      refine g_lcmp C dX8_actHere_165 ?_
                      refine g_if_ne (tgt := 174) C dX8_actHere_166 (by decide) (fun c166 => ?_) (fun c166 => ?_)
                      · refine g_aload_n C dX8_actHere_174 rfl ?_
                        refine g_getl C F8 (by rw [hw]; decide) rfl (by decide) 10 (by decide) rfl (hts (.fieldLink RX8 141 "FallBenchModel" "name" "J") (by decide +kernel)) rfl rfl dX8_actHere_175 ?_
                        refine g_ldc2 C (hts (.constantLong RX8 173 (26479)) (by decide +kernel)) dX8_actHere_178 ?_
                        refine g_lcmp C dX8_actHere_181 ?_
                        refine g_if_ne (tgt := 190) C dX8_actHere_182 (by decide) (fun c182 => ?_) (fun c182 => ?_)
                        · refine g_aload_n C dX8_actHere_190 rfl ?_
                          refine g_getl C F8 (by rw [hw]; decide) rfl (by decide) 10 (by decide) rfl (hts (.fieldLink RX8 141 "FallBenchModel" "name" "J") (by decide +kernel)) rfl rfl dX8_actHere_191 ?_
                          refine g_ldc2 C (hts (.constantLong RX8 175 (1786080624)) (by decide +kernel)) dX8_actHere_194 ?_
                          refine g_lcmp C dX8_actHere_197 ?_
                          refine g_if_ne (tgt := 206) C dX8_actHere_198 (by decide) (fun c198 => ?_) (fun c198 => ?_)
                          · refine g_aload_n C dX8_actHere_206 rfl ?_
                            refine g_getl C F8 (by rw [hw]; decide) rfl (by decide) 10 (by decide) rfl (hts (.fieldLink RX8 141 "FallBenchModel" "name" "J") (by decide +kernel)) rfl rfl dX8_actHere_207 ?_
                            refine g_ldc2 C (hts (.constantLong RX8 177 (7304564)) (by decide +kernel)) dX8_actHere_210 ?_
                            refine g_lcmp C dX8_actHere_213 ?_
                            refine g_if_ne (tgt := 222) C dX8_actHere_214 (by decide) (fun c214 => ?_) (fun c214 => ?_)
                            · refine g_aload_n C dX8_actHere_222 rfl ?_
                              refine g_getl C F8 (by rw [hw]; decide) rfl (by decide) 10 (by decide) rfl (hts (.fieldLink RX8 141 "FallBenchModel" "name" "J") (by decide +kernel)) rfl rfl dX8_actHere_223 ?_
                              refine g_ldc2 C (hts (.constantLong RX8 179 (1937010544)) (by decide +kernel)) dX8_actHere_226 ?_
                              refine g_lcmp C dX8_actHere_229 ?_
                              refine g_if_ne (tgt := 238) C dX8_actHere_230 (by decide) (fun c230 => ?_) (fun c230 => ?_)
                              · refine g_iconst (v := (-1)) C dX8_actHere_238 (by decide) ?_
                                exact g_iret C Rr ⟨rfl, ⟨by rw [if_pos c5]; simp only [kwn, if_neg (lcmp_ne c18), if_neg (lcmp_ne c33), if_neg (lcmp_ne c48), if_neg (lcmp_ne c63), if_neg (lcmp_ne c78), if_neg (lcmp_ne c93), if_neg (lcmp_ne c108), if_neg (lcmp_ne c134), if_neg (lcmp_ne c150), if_neg (lcmp_ne c166), if_neg (lcmp_ne c182), if_neg (lcmp_ne c198), if_neg (lcmp_ne c214), if_neg (lcmp_ne c230)], rfl⟩⟩ dX8_actHere_239
                              · refine g_bipush (v := 13) C dX8_actHere_233 (by decide) ?_
                                refine g_goto (tgt := 239) C dX8_actHere_235 (by decide) ?_
                                exact g_iret C Rr ⟨rfl, ⟨by rw [if_pos c5]; simp only [kwn, if_neg (lcmp_ne c18), if_neg (lcmp_ne c33), if_neg (lcmp_ne c48), if_neg (lcmp_ne c63), if_neg (lcmp_ne c78), if_neg (lcmp_ne c93), if_neg (lcmp_ne c108), if_neg (lcmp_ne c134), if_neg (lcmp_ne c150), if_neg (lcmp_ne c166), if_neg (lcmp_ne c182), if_neg (lcmp_ne c198), if_neg (lcmp_ne c214), if_pos (lcmp_eq c230)], rfl⟩⟩ dX8_actHere_239
                            · refine g_bipush (v := 12) C dX8_actHere_217 (by decide) ?_
                              refine g_goto (tgt := 239) C dX8_actHere_219 (by decide) ?_
                              exact g_iret C Rr ⟨rfl, ⟨by rw [if_pos c5]; simp only [kwn, if_neg (lcmp_ne c18), if_neg (lcmp_ne c33), if_neg (lcmp_ne c48), if_neg (lcmp_ne c63), if_neg (lcmp_ne c78), if_neg (lcmp_ne c93), if_neg (lcmp_ne c108), if_neg (lcmp_ne c134), if_neg (lcmp_ne c150), if_neg (lcmp_ne c166), if_neg (lcmp_ne c182), if_neg (lcmp_ne c198), if_pos (lcmp_eq c214)], rfl⟩⟩ dX8_actHere_239
                          · refine g_bipush (v := 11) C dX8_actHere_201 (by decide) ?_
                            refine g_goto (tgt := 239) C dX8_actHere_203 (by decide) ?_
                            exact g_iret C Rr ⟨rfl, ⟨by rw [if_pos c5]; simp only [kwn, if_neg (lcmp_ne c18), if_neg (lcmp_ne c33), if_neg (lcmp_ne c48), if_neg (lcmp_ne c63), if_neg (lcmp_ne c78), if_neg (lcmp_ne c93), if_neg (lcmp_ne c108), if_neg (lcmp_ne c134), if_neg (lcmp_ne c150), if_neg (lcmp_ne c166), if_neg (lcmp_ne c182), if_pos (lcmp_eq c198)], rfl⟩⟩ dX8_actHere_239
                        · refine g_bipush (v := 10) C dX8_actHere_185 (by decide) ?_
                          refine g_goto (tgt := 239) C dX8_actHere_187 (by decide) ?_
                          exact g_iret C Rr ⟨rfl, ⟨by rw [if_pos c5]; simp only [kwn, if_neg (lcmp_ne c18), if_neg (lcmp_ne c33), if_neg (lcmp_ne c48), if_neg (lcmp_ne c63), if_neg (lcmp_ne c78), if_neg (lcmp_ne c93), if_neg (lcmp_ne c108), if_neg (lcmp_ne c134), if_neg (lcmp_ne c150), if_neg (lcmp_ne c166), if_pos (lcmp_eq c182)], rfl⟩⟩ dX8_actHere_239
                      · refine g_bipush (v := 9) C dX8_actHere_169 (by decide) ?_
                        refine g_goto (tgt := 239) C dX8_actHere_171 (by decide) ?_
                        exact g_iret C Rr ⟨rfl, ⟨by rw [if_pos c5]; simp only [kwn, if_neg (lcmp_ne c18), if_neg (lcmp_ne c33), if_neg (lcmp_ne c48), if_neg (lcmp_ne c63), if_neg (lcmp_ne c78), if_neg (lcmp_ne c93), if_neg (lcmp_ne c108), if_neg (lcmp_ne c134), if_neg (lcmp_ne c150), if_pos (lcmp_eq c166)], rfl⟩⟩ dX8_actHere_239
                    · refine g_bipush (v := 8) C dX8_actHere_153 (by decide) ?_
                      refine g_goto (tgt := 239) C dX8_actHere_155 (by decide) ?_
                      exact g_iret C Rr ⟨rfl, ⟨by rw [if_pos c5]; simp only [kwn, if_neg (lcmp_ne c18), if_neg (lcmp_ne c33), if_neg (lcmp_ne c48), if_neg (lcmp_ne c63), if_neg (lcmp_ne c78), if_neg (lcmp_ne c93), if_neg (lcmp_ne c108), if_neg (lcmp_ne c134), if_pos (lcmp_eq c150)], rfl⟩⟩ dX8_actHere_239
                  · refine g_bipush (v := 7) C dX8_actHere_137 (by decide) ?_
                    refine g_goto (tgt := 239) C dX8_actHere_139 (by decide) ?_
                    exact g_iret C Rr ⟨rfl, ⟨by rw [if_pos c5]; simp only [kwn, if_neg (lcmp_ne c18), if_neg (lcmp_ne c33), if_neg (lcmp_ne c48), if_neg (lcmp_ne c63), if_neg (lcmp_ne c78), if_neg (lcmp_ne c93), if_neg (lcmp_ne c108), if_pos (lcmp_eq c134)], rfl⟩⟩ dX8_actHere_239
                · refine g_bipush (v := 6) C dX8_actHere_111 (by decide) ?_
                  refine g_goto (tgt := 117) C dX8_actHere_113 (by decide) ?_
                  refine g_istore_n C V.2.1 dX8_actHere_117 (by decide) rfl ?_
                  refine g_iload_n C dX8_actHere_118 rfl ?_
                  refine g_if_lt (tgt := 126) C dX8_actHere_119 (by decide) (fun c119 => absurd c119 (by decide)) (fun c119 => ?_)
                  refine g_iload_n C dX8_actHere_122 rfl ?_
                  refine g_goto (tgt := 239) C dX8_actHere_123 (by decide) ?_
                  exact g_iret C Rr ⟨rfl, ⟨by rw [if_pos c5]; simp only [kwn, if_neg (lcmp_ne c18), if_neg (lcmp_ne c33), if_neg (lcmp_ne c48), if_neg (lcmp_ne c63), if_neg (lcmp_ne c78), if_neg (lcmp_ne c93), if_pos (lcmp_eq c108)], rfl⟩⟩ dX8_actHere_239
              · refine g_iconst (v := 5) C dX8_actHere_96 (by decide) ?_
                refine g_goto (tgt := 117) C dX8_actHere_97 (by decide) ?_
                refine g_istore_n C V.2.1 dX8_actHere_117 (by decide) rfl ?_
                refine g_iload_n C dX8_actHere_118 rfl ?_
                refine g_if_lt (tgt := 126) C dX8_actHere_119 (by decide) (fun c119 => absurd c119 (by decide)) (fun c119 => ?_)
                refine g_iload_n C dX8_actHere_122 rfl ?_
                refine g_goto (tgt := 239) C dX8_actHere_123 (by decide) ?_
                exact g_iret C Rr ⟨rfl, ⟨by rw [if_pos c5]; simp only [kwn, if_neg (lcmp_ne c18), if_neg (lcmp_ne c33), if_neg (lcmp_ne c48), if_neg (lcmp_ne c63), if_neg (lcmp_ne c78), if_pos (lcmp_eq c93)], rfl⟩⟩ dX8_actHere_239
            · refine g_iconst (v := 4) C dX8_actHere_81 (by decide) ?_
              refine g_goto (tgt := 117) C dX8_actHere_82 (by decide) ?_
              refine g_istore_n C V.2.1 dX8_actHere_117 (by decide) rfl ?_
              refine g_iload_n C dX8_actHere_118 rfl ?_
              refine g_if_lt (tgt := 126) C dX8_actHere_119 (by decide) (fun c119 => absurd c119 (by decide)) (fun c119 => ?_)
              refine g_iload_n C dX8_actHere_122 rfl ?_
              refine g_goto (tgt := 239) C dX8_actHere_123 (by decide) ?_
              exact g_iret C Rr ⟨rfl, ⟨by rw [if_pos c5]; simp only [kwn, if_neg (lcmp_ne c18), if_neg (lcmp_ne c33), if_neg (lcmp_ne c48), if_neg (lcmp_ne c63), if_pos (lcmp_eq c78)], rfl⟩⟩ dX8_actHere_239
          · refine g_iconst (v := 3) C dX8_actHere_66 (by decide) ?_
            refine g_goto (tgt := 117) C dX8_actHere_67 (by decide) ?_
            refine g_istore_n C V.2.1 dX8_actHere_117 (by decide) rfl ?_
            refine g_iload_n C dX8_actHere_118 rfl ?_
            refine g_if_lt (tgt := 126) C dX8_actHere_119 (by decide) (fun c119 => absurd c119 (by decide)) (fun c119 => ?_)
            refine g_iload_n C dX8_actHere_122 rfl ?_
            refine g_goto (tgt := 239) C dX8_actHere_123 (by decide) ?_
            exact g_iret C Rr ⟨rfl, ⟨by rw [if_pos c5]; simp only [kwn, if_neg (lcmp_ne c18), if_neg (lcmp_ne c33), if_neg (lcmp_ne c48), if_pos (lcmp_eq c63)], rfl⟩⟩ dX8_actHere_239
        · refine g_iconst (v := 2) C dX8_actHere_51 (by decide) ?_
          refine g_goto (tgt := 117) C dX8_actHere_52 (by decide) ?_
          refine g_istore_n C V.2.1 dX8_actHere_117 (by decide) rfl ?_
          refine g_iload_n C dX8_actHere_118 rfl ?_
          refine g_if_lt (tgt := 126) C dX8_actHere_119 (by decide) (fun c119 => absurd c119 (by decide)) (fun c119 => ?_)
          refine g_iload_n C dX8_actHere_122 rfl ?_
          refine g_goto (tgt := 239) C dX8_actHere_123 (by decide) ?_
          exact g_iret C Rr ⟨rfl, ⟨by rw [if_pos c5]; simp only [kwn, if_neg (lcmp_ne c18), if_neg (lcmp_ne c33), if_pos (lcmp_eq c48)], rfl⟩⟩ dX8_actHere_239
      · refine g_iconst (v := 1) C dX8_actHere_36 (by decide) ?_
        refine g_goto (tgt := 117) C dX8_actHere_37 (by decide) ?_
        refine g_istore_n C V.2.1 dX8_actHere_117 (by decide) rfl ?_
        refine g_iload_n C dX8_actHere_118 rfl ?_
        refine g_if_lt (tgt := 126) C dX8_actHere_119 (by decide) (fun c119 => absurd c119 (by decide)) (fun c119 => ?_)
        refine g_iload_n C dX8_actHere_122 rfl ?_
        refine g_goto (tgt := 239) C dX8_actHere_123 (by decide) ?_
        exact g_iret C Rr ⟨rfl, ⟨by rw [if_pos c5]; simp only [kwn, if_neg (lcmp_ne c18), if_pos (lcmp_eq c33)], rfl⟩⟩ dX8_actHere_239
    · refine g_iconst (v := 0) C dX8_actHere_21 (by decide) ?_
      refine g_goto (tgt := 117) C dX8_actHere_22 (by decide) ?_
      refine g_istore_n C V.2.1 dX8_actHere_117 (by decide) rfl ?_
      refine g_iload_n C dX8_actHere_118 rfl ?_
      refine g_if_lt (tgt := 126) C dX8_actHere_119 (by decide) (fun c119 => absurd c119 (by decide)) (fun c119 => ?_)
      refine g_iload_n C dX8_actHere_122 rfl ?_
      refine g_goto (tgt := 239) C dX8_actHere_123 (by decide) ?_
      exact g_iret C Rr ⟨rfl, ⟨by rw [if_pos c5]; simp only [kwn, if_pos (lcmp_eq c18)], rfl⟩⟩ dX8_actHere_239
  · refine g_iconst (v := (-1)) C dX8_actHere_8 (by decide) ?_
    exact g_iret C Rr ⟨rfl, ⟨by rw [if_neg c5], rfl⟩⟩ dX8_actHere_9

set_option maxHeartbeats 4000000 in
set_option maxRecDepth 100000 in
theorem c_X8_labelOf {l : Launch} {D : va_G} {w : gw} {M : Nat → Nat → Int32} {J : Nat → Nat → Int64} {R : Nat → Nat → Option Nat} (hw : w.1 = 166) (hR : LayM R) {v : Int64} {c : Nat} (hc : M 134 20 = nI c) (hc2 : c ≤ 20) : Cf l yX8_labelOf wsX8_labelOf ({ frames := 0, cells := 0, slots := 0, locals := 0 } : Room) D w [.ref (w.2.1 134), .long v] M J R (some (.int (optI (hfd (fun k => J 144 k = v) c)))) M J R := by
  refine Cg.of (own := RX8) (cc := cX8_labelOf) (maxL := 4) (ret := (some .int)) 1 (by decide) rfl rfl (Nat.le_of_ble_eq_true rfl) (fun X C hts V Rr => ?_)
  have F8 : FW X 8 := fun q h => hts q (List.mem_cons_of_mem _ (List.mem_append_right _ h))
  show Gj X 0 0 w M J R 0 [some (.ref (w.2.1 134)), some (.long v), none, none] []
  have loop : ∀ dd j, j + dd = c → hfd (fun k => J 144 k = v) j = none → Gj X 0 0 w M J R 2 [some (.ref (w.2.1 134)), some (.long v), none, some (.int (nI j))] [] := by
    intro dd
    induction dd with
    | zero =>
      intro j hj hv
      obtain rfl : j = c := by omega
      refine g_iload_n C dX8_labelOf_2 rfl ?_
      refine g_aload_n C dX8_labelOf_3 rfl ?_
      refine g_geti (v := nI j) C F8 (by rw [hw]; decide) rfl (by decide) 20 (by decide) rfl (hts (.fieldLink RX8 187 "FallBenchModel" "labels" "I") (by decide +kernel)) rfl hc dX8_labelOf_4 ?_
      refine g_icmp_ge (tgt := 29) C dX8_labelOf_7 (by decide) (fun c7 => ?_) (fun c7 => absurd c7 (not_not_intro (nI_le (Nat.le_refl _) (by omega))))
      refine g_iconst (v := (-1)) C dX8_labelOf_29 (by decide) ?_
      exact g_iret C Rr ⟨rfl, ⟨by rw [hv]; rfl, rfl⟩⟩ dX8_labelOf_30
    | succ dd ih =>
      intro j hj hv
      refine g_iload_n C dX8_labelOf_2 rfl ?_
      refine g_aload_n C dX8_labelOf_3 rfl ?_
      refine g_geti (v := nI c) C F8 (by rw [hw]; decide) rfl (by decide) 20 (by decide) rfl (hts (.fieldLink RX8 187 "FallBenchModel" "labels" "I") (by decide +kernel)) rfl hc dX8_labelOf_4 ?_
      refine g_icmp_ge (tgt := 29) C dX8_labelOf_7 (by decide) (fun c7 => absurd c7 (nI_ge (a := j) (b := c) (by omega) (by omega))) (fun c7 => ?_)
      refine g_aload_n C dX8_labelOf_10 rfl ?_
      refine g_getr (j := 144) C F8 (by rw [hw]; decide) rfl (by decide) 18 (by decide) rfl (hts (.fieldLink RX8 42 "FallBenchModel" "label" "[J") (by decide +kernel)) rfl (hR (18, 144) (by decide)) dX8_labelOf_11 ?_
      refine g_iload_n C dX8_labelOf_14 rfl ?_
      refine g_lald (v := J 144 j) C (by rw [hw]; decide) rfl (vp_in_nI (N := 20) (by omega) (by decide)) (by rw [nI_clamp (by omega)]) dX8_labelOf_15 ?_
      refine g_lload_n C dX8_labelOf_16 rfl ?_
      refine g_lcmp C dX8_labelOf_17 ?_
      refine g_if_ne (tgt := 23) C dX8_labelOf_18 (by decide) (fun c18 => ?_) (fun c18 => ?_)
      · refine g_iinc (v := nI (j + 1)) C V.2.1 dX8_labelOf_23 rfl (nI_succ j).symm (by decide) rfl ?_
        refine g_goto (tgt := 2) C dX8_labelOf_26 (by decide) ?_
        exact ih (j + 1) (by omega) (by rw [hfd_s hv, if_neg (lcmp_ne c18)])
      · refine g_iload_n C dX8_labelOf_21 rfl ?_
        exact g_iret C Rr ⟨rfl, ⟨by rw [hfd_up (n := j + 1) (h := j) (by rw [hfd_s hv, if_pos (lcmp_eq c18)]) c (by omega)]; rfl, rfl⟩⟩ dX8_labelOf_22
  refine g_iconst (v := 0) C dX8_labelOf_0 (by decide) ?_
  refine g_istore_n C V.2.1 dX8_labelOf_1 (by decide) rfl ?_
  exact loop c 0 (by omega) rfl

def numP (T : List Int32) (a : Nat) (M : Nat → Nat → Int32) (u : Nat → Nat → Int32) : Prop := u 134 7 = nI (nst T a + (ndg T a).length) ∧ u 134 8 = (if (ndg T a).length ≤ 6 ∧ isLe (T.getD (nst T a + (ndg T a).length) 0) = 0 then 4 else 1) ∧ ((ndg T a).length ≤ 6 → u 134 9 = if T.getD a 0 = 45 then - numi (ndg T a) else numi (ndg T a)) ∧ ∀ x y, ¬ (x = 134 ∧ 7 ≤ y ∧ y ≤ 9) → u x y = M x y

set_option maxHeartbeats 4000000 in
set_option maxRecDepth 100000 in
theorem c_X8_numeral {l : Launch} {D : va_G} {w : gw} {M : Nat → Nat → Int32} {J : Nat → Nat → Int64} {R : Nat → Nat → Option Nat} (hw : w.1 = 166) (hR : LayM R) {T : List Int32} (hX : okX T) (hx : txM M T) {a : Nat} (hat : M 134 6 = nI a) (ha : a ≤ T.length) {z : Int32} (hz : z = if T.getD a 0 = 45 then 1 else 0) : Ct l yX8_numeral wsX8_numeral ({ frames := 1, cells := 0, slots := 0, locals := 21 } : Room) D w [.ref (w.2.1 134), .int z] (M, J, R) (fun v u => v = none ∧ u.2.1 = J ∧ u.2.2 = R ∧ numP T a M u.1) := by
  refine Cg.of (own := RX8) (cc := cX8_numeral) (maxL := 3) (ret := none) 1 (by decide) rfl rfl (Nat.le_of_ble_eq_true rfl) (fun X C hts V Rr => ?_)
  have F8 : FW X 8 := fun q h => hts q (List.mem_cons_of_mem _ (List.mem_append_right _ h))
  show Gj X 0 0 w M J R 0 [some (.ref (w.2.1 134)), some (.int z), none] []
  have hT := hX.1
  have hz0 : z = 0 → ¬ T.getD a 0 = 45 := fun y q => by rw [hz, if_pos q] at y; exact absurd y (by decide)
  have hz1 : ¬ z = 0 → T.getD a 0 = 45 := fun y => Classical.byContradiction (fun q => y (by rw [hz, if_neg q]))
  have hx0 : ∀ M0 : Nat → Nat → Int32, (∀ x y, ¬ (x = 134 ∧ 7 ≤ y ∧ y ≤ 9) → M0 x y = M x y) → txM M0 T := fun M0 q => ⟨(q 134 3 (by omega)).trans hx.1, fun k hk => by rw [q 136 k (by omega)]; exact hx.2 k hk⟩
  have hn2 : nst T a ≤ T.length := by unfold nst; split; (have := lt_of_getD (T := T) (a := a) (by rename_i q; rw [q]; decide); omega); exact ha
  have fin : ∀ (M0 : Nat → Nat → Int32), (∀ x y, ¬ (x = 134 ∧ 7 ≤ y ∧ y ≤ 9) → M0 x y = M x y) → M0 134 7 = nI (nst T a + (ndg T a).length) → ((ndg T a).length ≤ 6 → M0 134 9 = numi (ndg T a)) → Gj X 0 0 w M0 J R 89 [some (.ref (w.2.1 134)), some (.int z), some (.int (nI (nst T a)))] [] := by
    intro M0 hM0 h7 h9
    have hl : nst T a + (ndg T a).length ≤ T.length := tw_le qD T hn2
    have tail : ∀ (M5 : Nat → Nat → Int32), (∀ x y, ¬ (x = 134 ∧ 7 ≤ y ∧ y ≤ 9) → M5 x y = M x y) → M5 134 7 = nI (nst T a + (ndg T a).length) → ((ndg T a).length ≤ 6 → M5 134 9 = if T.getD a 0 = 45 then - numi (ndg T a) else numi (ndg T a)) → Gj X 0 0 w M5 J R 102 [some (.ref (w.2.1 134)), some (.int z), some (.int (nI (nst T a)))] [] := by
      intro M5 hM5 g7 g9
      refine g_aload_n C dX8_numeral_102 rfl ?_
      refine g_aload_n C dX8_numeral_103 rfl ?_
      refine g_geti (v := nI (nst T a + (ndg T a).length)) C F8 (by rw [hw]; decide) rfl (by decide) 7 (by decide) rfl (hts (.fieldLink RX8 118 "FallBenchModel" "end" "I") (by decide +kernel)) rfl g7 dX8_numeral_104 ?_
      refine g_iload_n C dX8_numeral_107 rfl ?_
      refine g_isub C dX8_numeral_108 ?_
      rw [pk_sub (by omega), Nat.add_sub_cancel_left]
      refine g_bipush (v := 6) C dX8_numeral_109 (by decide) ?_
      refine g_icmp_gt (tgt := 128) C dX8_numeral_111 (by decide) (fun c111 => ?_) (fun c111 => ?_)
      · refine g_iconst (v := 1) C dX8_numeral_128 (by decide) ?_
        refine g_goto (tgt := 133) C dX8_numeral_129 (by decide) ?_
        refine g_puti C F8 (by rw [hw]; decide) rfl (by decide) 8 (by decide) rfl (hts (.fieldLink RX8 128 "FallBenchModel" "token" "I") (by decide +kernel)) rfl rfl rfl rfl dX8_numeral_133 ?_
        exact g_vret C Rr ⟨rfl, ⟨rfl, rfl, rfl, (show up2 M5 134 8 1 134 7 = _ by rw [up2_n2 _ _ (by decide)]; exact g7), (show up2 M5 134 8 1 134 8 = _ by rw [up2_eq, if_neg (fun y => absurd ((nI_ltI (a := 6) (by decide) (by omega)).mp c111) (by omega))]), (fun q => show up2 M5 134 8 1 134 9 = _ by rw [up2_n2 _ _ (by decide)]; exact g9 q), fun x y q => show up2 M5 134 8 1 x y = M x y by rw [up2_nb (fun k => q ⟨k.1, by omega⟩)]; exact hM5 x y q⟩⟩ dX8_numeral_136
      · refine g_aload_n C dX8_numeral_114 rfl ?_
        refine g_aload_n C dX8_numeral_115 rfl ?_
        refine g_geti (v := nI (nst T a + (ndg T a).length)) C F8 (by rw [hw]; decide) rfl (by decide) 7 (by decide) rfl (hts (.fieldLink RX8 118 "FallBenchModel" "end" "I") (by decide +kernel)) rfl g7 dX8_numeral_116 ?_
        refine g_callVf C hts V (i := 134) (gX8_numeral_X8_sign) rfl hdX8_sign (by decide) (c_X8_sign (p := nst T a + (ndg T a).length) hw hR hX (hx0 _ hM5) (by omega)) (by rw [hw]; decide) rfl (by decide) rfl rfl (Nat.le_of_ble_eq_true rfl) dX8_numeral_119 ?_
        refine g_callSf C hts V (gX8_numeral_X8_isLetter) rfl hdX8_isLetter (by decide) c_X8_isLetter rfl rfl (Nat.le_of_ble_eq_true rfl) dX8_numeral_122 ?_
        refine g_if_eq (tgt := 132) C dX8_numeral_125 (by decide) (fun c125 => ?_) (fun c125 => ?_)
        · refine g_iconst (v := 4) C dX8_numeral_132 (by decide) ?_
          refine g_puti C F8 (by rw [hw]; decide) rfl (by decide) 8 (by decide) rfl (hts (.fieldLink RX8 128 "FallBenchModel" "token" "I") (by decide +kernel)) rfl rfl rfl rfl dX8_numeral_133 ?_
          exact g_vret C Rr ⟨rfl, ⟨rfl, rfl, rfl, (show up2 M5 134 8 4 134 7 = _ by rw [up2_n2 _ _ (by decide)]; exact g7), (show up2 M5 134 8 4 134 8 = _ by rw [up2_eq, if_pos ⟨by rcases Nat.lt_or_ge 6 (ndg T a).length with y | y; exact absurd (nI_lt (a := 6) y (by omega)) c111; exact y, c125⟩]), (fun q => show up2 M5 134 8 4 134 9 = _ by rw [up2_n2 _ _ (by decide)]; exact g9 q), fun x y q => show up2 M5 134 8 4 x y = M x y by rw [up2_nb (fun k => q ⟨k.1, by omega⟩)]; exact hM5 x y q⟩⟩ dX8_numeral_136
        · refine g_iconst (v := 1) C dX8_numeral_128 (by decide) ?_
          refine g_goto (tgt := 133) C dX8_numeral_129 (by decide) ?_
          refine g_puti C F8 (by rw [hw]; decide) rfl (by decide) 8 (by decide) rfl (hts (.fieldLink RX8 128 "FallBenchModel" "token" "I") (by decide +kernel)) rfl rfl rfl rfl dX8_numeral_133 ?_
          exact g_vret C Rr ⟨rfl, ⟨rfl, rfl, rfl, (show up2 M5 134 8 1 134 7 = _ by rw [up2_n2 _ _ (by decide)]; exact g7), (show up2 M5 134 8 1 134 8 = _ by rw [up2_eq, if_neg (fun y => c125 y.2)]), (fun q => show up2 M5 134 8 1 134 9 = _ by rw [up2_n2 _ _ (by decide)]; exact g9 q), fun x y q => show up2 M5 134 8 1 x y = M x y by rw [up2_nb (fun k => q ⟨k.1, by omega⟩)]; exact hM5 x y q⟩⟩ dX8_numeral_136
    refine g_iload_n C dX8_numeral_89 rfl ?_
    refine g_if_eq (tgt := 102) C dX8_numeral_90 (by decide) (fun c90 => ?_) (fun c90 => ?_)
    · exact tail M0 hM0 h7 (fun q => by rw [if_neg (hz0 c90)]; exact h9 q)
    · refine g_aload_n C dX8_numeral_93 rfl ?_
      refine g_aload_n C dX8_numeral_94 rfl ?_
      refine g_geti C F8 (by rw [hw]; decide) rfl (by decide) 9 (by decide) rfl (hts (.fieldLink RX8 138 "FallBenchModel" "number" "I") (by decide +kernel)) rfl rfl dX8_numeral_95 ?_
      refine g_ineg C dX8_numeral_98 ?_
      refine g_puti C F8 (by rw [hw]; decide) rfl (by decide) 9 (by decide) rfl (hts (.fieldLink RX8 138 "FallBenchModel" "number" "I") (by decide +kernel)) rfl rfl rfl rfl dX8_numeral_99 ?_
      exact tail _ (fun x y q => by rw [up2_nb (fun k => q ⟨k.1, by omega⟩)]; exact hM0 x y q) (by rw [up2_n2 _ _ (by decide)]; exact h7) (fun q => by rw [up2_eq, if_pos (hz1 c90), h9 q])
  have loop : ∀ dd p j (M0 : Nat → Nat → Int32), p + dd = T.length + 1 → p ≤ T.length → p = nst T a + j → j + (tw qD T p).length = (ndg T a).length → (∀ x y, ¬ (x = 134 ∧ 7 ≤ y ∧ y ≤ 9) → M0 x y = M x y) → M0 134 7 = nI p → ((ndg T a).length ≤ 6 → (tw qD T p).foldl fi (M0 134 9) = numi (ndg T a)) → Gj X 0 0 w M0 J R 28 [some (.ref (w.2.1 134)), some (.int z), some (.int (nI (nst T a)))] [] := by
    intro dd
    induction dd with
    | zero => intro p j M0 h1 h2; omega
    | succ dd ih =>
      intro p j M0 h1 h2 h3 h4 hM0 h7 h9
      refine g_aload_n C dX8_numeral_28 rfl ?_
      refine g_aload_n C dX8_numeral_29 rfl ?_
      refine g_geti (v := nI p) C F8 (by rw [hw]; decide) rfl (by decide) 7 (by decide) rfl (hts (.fieldLink RX8 118 "FallBenchModel" "end" "I") (by decide +kernel)) rfl h7 dX8_numeral_30 ?_
      refine g_callVf C hts V (i := 134) (gX8_numeral_X8_sign) rfl hdX8_sign (by decide) (c_X8_sign (p := p) hw hR hX (hx0 _ hM0) (by omega)) (by rw [hw]; decide) rfl (by decide) rfl rfl (Nat.le_of_ble_eq_true rfl) dX8_numeral_33 ?_
      refine g_callSf C hts V (gX8_numeral_X8_isDigit) rfl hdX8_isDigit (by decide) c_X8_isDigit rfl rfl (Nat.le_of_ble_eq_true rfl) dX8_numeral_36 ?_
      refine g_if_eq (tgt := 89) C dX8_numeral_39 (by decide) (fun c39 => ?_) (fun c39 => ?_)
      · have h0 : tw qD T p = [] := tw_n (fun y => absurd c39 (qD_t.mp y))
        rw [h0] at h4 h9
        exact fin M0 hM0 (by rw [h7, h3, show (ndg T a).length = j from h4.symm]) h9
      · refine g_aload_n C dX8_numeral_42 rfl ?_
        refine g_geti (v := nI p) C F8 (by rw [hw]; decide) rfl (by decide) 7 (by decide) rfl (hts (.fieldLink RX8 118 "FallBenchModel" "end" "I") (by decide +kernel)) rfl h7 dX8_numeral_43 ?_
        refine g_iload_n C dX8_numeral_46 rfl ?_
        refine g_isub C dX8_numeral_47 ?_
        rw [pk_sub (by omega), show p - nst T a = j by omega]
        refine g_bipush (v := 6) C dX8_numeral_48 (by decide) ?_
        refine g_icmp_ge (tgt := 76) C dX8_numeral_50 (by decide) (fun c50 => ?_) (fun c50 => ?_)
        · refine g_aload_n C dX8_numeral_76 rfl ?_
          refine g_dup C dX8_numeral_77 rfl ?_
          refine g_geti (v := nI p) C F8 (by rw [hw]; decide) rfl (by decide) 7 (by decide) rfl (hts (.fieldLink RX8 118 "FallBenchModel" "end" "I") (by decide +kernel)) rfl h7 dX8_numeral_78 ?_
          refine g_iconst (v := 1) C dX8_numeral_81 (by decide) ?_
          refine g_iadd C dX8_numeral_82 ?_
          refine g_puti C F8 (by rw [hw]; decide) rfl (by decide) 7 (by decide) rfl (hts (.fieldLink RX8 118 "FallBenchModel" "end" "I") (by decide +kernel)) rfl rfl rfl rfl dX8_numeral_83 ?_
          refine g_goto (tgt := 28) C dX8_numeral_86 (by decide) ?_
          have hq := qD_t.mpr c39
          have hc := tw_c (q := qD) hq.1 hq.2
          have hlp := hq.1
          rw [hc] at h4 h9
          rw [List.length_cons] at h4
          have h6 : 6 ≤ j := (nI_leI (a := 6) (by decide) (by omega)).mp c50
          exact ih (p + 1) (j + 1) _ (by omega) (by omega) (by omega) (by omega) (fun x y q => by rw [up2_nb (fun k => q ⟨k.1, by omega⟩)]; exact hM0 x y q) (by rw [up2_eq, nI_p1]) (fun q => by omega)
        · refine g_aload_n C dX8_numeral_53 rfl ?_
          refine g_bipush (v := 10) C dX8_numeral_54 (by decide) ?_
          refine g_aload_n C dX8_numeral_56 rfl ?_
          refine g_geti C F8 (by rw [hw]; decide) rfl (by decide) 9 (by decide) rfl (hts (.fieldLink RX8 138 "FallBenchModel" "number" "I") (by decide +kernel)) rfl rfl dX8_numeral_57 ?_
          refine g_imul C dX8_numeral_60 ?_
          refine g_aload_n C dX8_numeral_61 rfl ?_
          refine g_aload_n C dX8_numeral_62 rfl ?_
          refine g_geti (v := nI p) C F8 (by rw [hw]; decide) rfl (by decide) 7 (by decide) rfl (hts (.fieldLink RX8 118 "FallBenchModel" "end" "I") (by decide +kernel)) rfl h7 dX8_numeral_63 ?_
          refine g_callVf C hts V (i := 134) (gX8_numeral_X8_sign) rfl hdX8_sign (by decide) (c_X8_sign (p := p) hw hR hX (hx0 _ hM0) (by omega)) (by rw [hw]; decide) rfl (by decide) rfl rfl (Nat.le_of_ble_eq_true rfl) dX8_numeral_66 ?_
          refine g_iadd C dX8_numeral_69 ?_
          refine g_bipush (v := 48) C dX8_numeral_70 (by decide) ?_
          refine g_isub C dX8_numeral_72 ?_
          refine g_puti C F8 (by rw [hw]; decide) rfl (by decide) 9 (by decide) rfl (hts (.fieldLink RX8 138 "FallBenchModel" "number" "I") (by decide +kernel)) rfl rfl rfl rfl dX8_numeral_73 ?_
          refine g_aload_n C dX8_numeral_76 rfl ?_
          refine g_dup C dX8_numeral_77 rfl ?_
          refine g_geti (v := nI p) C F8 (by rw [hw]; decide) rfl (by decide) 7 (by decide) rfl (hts (.fieldLink RX8 118 "FallBenchModel" "end" "I") (by decide +kernel)) rfl (by rw [up2_n2 _ _ (by decide)]; exact h7) dX8_numeral_78 ?_
          refine g_iconst (v := 1) C dX8_numeral_81 (by decide) ?_
          refine g_iadd C dX8_numeral_82 ?_
          refine g_puti C F8 (by rw [hw]; decide) rfl (by decide) 7 (by decide) rfl (hts (.fieldLink RX8 118 "FallBenchModel" "end" "I") (by decide +kernel)) rfl rfl rfl rfl dX8_numeral_83 ?_
          refine g_goto (tgt := 28) C dX8_numeral_86 (by decide) ?_
          have hq := qD_t.mpr c39
          have hc := tw_c (q := qD) hq.1 hq.2
          have hlp := hq.1
          rw [hc] at h4 h9
          rw [List.length_cons] at h4
          exact ih (p + 1) (j + 1) _ (by omega) (by omega) (by omega) (by omega) (fun x y q => by rw [up2_nb (fun k => q ⟨k.1, by omega⟩), up2_nb (fun k => q ⟨k.1, by omega⟩)]; exact hM0 x y q) (by rw [up2_eq, nI_p1]) (fun q => by rw [up2_n2 _ _ (by decide), up2_eq]; exact h9 q)
  refine g_iload_n C dX8_numeral_0 rfl ?_
  refine g_if_eq (tgt := 13) C dX8_numeral_1 (by decide) (fun c1 => ?_) (fun c1 => ?_)
  · refine g_aload_n C dX8_numeral_13 rfl ?_
    refine g_geti (v := nI a) C F8 (by rw [hw]; decide) rfl (by decide) 6 (by decide) rfl (hts (.fieldLink RX8 121 "FallBenchModel" "at" "I") (by decide +kernel)) rfl hat dX8_numeral_14 ?_
    refine g_istore_n C V.2.1 dX8_numeral_17 (by decide) rfl ?_
    refine g_aload_n C dX8_numeral_18 rfl ?_
    refine g_iconst (v := 0) C dX8_numeral_19 (by decide) ?_
    refine g_puti C F8 (by rw [hw]; decide) rfl (by decide) 9 (by decide) rfl (hts (.fieldLink RX8 138 "FallBenchModel" "number" "I") (by decide +kernel)) rfl rfl rfl rfl dX8_numeral_20 ?_
    refine g_aload_n C dX8_numeral_23 rfl ?_
    refine g_iload_n C dX8_numeral_24 rfl ?_
    refine g_puti C F8 (by rw [hw]; decide) rfl (by decide) 7 (by decide) rfl (hts (.fieldLink RX8 118 "FallBenchModel" "end" "I") (by decide +kernel)) rfl rfl rfl rfl dX8_numeral_25 ?_
    have hs : nst T a = a := by unfold nst; rw [if_neg (hz0 c1)]
    rw [show nI a = nI (nst T a) by rw [hs]]
    exact loop (T.length + 1 - nst T a) (nst T a) 0 _ (by omega) hn2 (by omega) (by unfold ndg; omega) (fun x y q => by rw [up2_nb (fun k => q ⟨k.1, by omega⟩), up2_nb (fun k => q ⟨k.1, by omega⟩)]) (by rw [up2_eq]) (fun q => by rw [up2_n2 _ _ (by decide), up2_eq]; rfl)
  · refine g_aload_n C dX8_numeral_4 rfl ?_
    refine g_geti (v := nI a) C F8 (by rw [hw]; decide) rfl (by decide) 6 (by decide) rfl (hts (.fieldLink RX8 121 "FallBenchModel" "at" "I") (by decide +kernel)) rfl hat dX8_numeral_5 ?_
    refine g_iconst (v := 1) C dX8_numeral_8 (by decide) ?_
    refine g_iadd C dX8_numeral_9 ?_
    refine g_goto (tgt := 17) C dX8_numeral_10 (by decide) ?_
    refine g_istore_n C V.2.1 dX8_numeral_17 (by decide) rfl ?_
    refine g_aload_n C dX8_numeral_18 rfl ?_
    refine g_iconst (v := 0) C dX8_numeral_19 (by decide) ?_
    refine g_puti C F8 (by rw [hw]; decide) rfl (by decide) 9 (by decide) rfl (hts (.fieldLink RX8 138 "FallBenchModel" "number" "I") (by decide +kernel)) rfl rfl rfl rfl dX8_numeral_20 ?_
    refine g_aload_n C dX8_numeral_23 rfl ?_
    refine g_iload_n C dX8_numeral_24 rfl ?_
    refine g_puti C F8 (by rw [hw]; decide) rfl (by decide) 7 (by decide) rfl (hts (.fieldLink RX8 118 "FallBenchModel" "end" "I") (by decide +kernel)) rfl rfl rfl rfl dX8_numeral_25 ?_
    have hs : nst T a = a + 1 := by unfold nst; rw [if_pos (hz1 c1)]
    rw [show nI a + 1 = nI (nst T a) by rw [hs, nI_p1]]
    exact loop (T.length + 1 - nst T a) (nst T a) 0 _ (by omega) hn2 (by omega) (by unfold ndg; omega) (fun x y q => by rw [up2_nb (fun k => q ⟨k.1, by omega⟩), up2_nb (fun k => q ⟨k.1, by omega⟩)]) (by rw [up2_eq]) (fun q => by rw [up2_n2 _ _ (by decide), up2_eq]; rfl)
