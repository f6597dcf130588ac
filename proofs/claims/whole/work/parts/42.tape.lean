/-! the TAPE and the INPUTS -/
def add4 (M : Nat → Nat → Int32) (x : Int32) : Nat → Nat → Int32 := b_add (b_add (b_add (b_add M 1 ((x >>> ((24 : Int32) &&& 31)) &&& 255)) 1 ((x >>> ((16 : Int32) &&& 31)) &&& 255)) 1 ((x >>> ((8 : Int32) &&& 31)) &&& 255)) 1 ((x >>> ((0 : Int32) &&& 31)) &&& 255)

set_option maxHeartbeats 4000000 in
set_option maxRecDepth 100000 in
theorem c_X7_addFour {l : Launch} {D : va_G} {w : gw} {M : Nat → Nat → Int32} {J : Nat → Nat → Int64} {R : Nat → Nat → Option Nat} (hw : w.1 = 166) (hR : LayC R) {x : Int32} : Cf l yX7_addFour wsX7_addFour ({ frames := 1, cells := 0, slots := 0, locals := 21 } : Room) D w [.ref (w.2.1 0), .int x] M J R none (add4 M x) J R := by
  refine Cg.of (own := RX7) (cc := cX7_addFour) (maxL := 3) (ret := none) 1 (by decide) rfl rfl (Nat.le_of_ble_eq_true rfl) (fun X C hts V Rr => ?_)
  have F7 : FW X 7 := fun q h => hts q (List.mem_cons_of_mem _ (List.mem_append_left _ (List.mem_append_right _ h)))
  have F3 : FW X 3 := fun q h => hts q (List.mem_cons_of_mem _ (List.mem_append_right _ h))
  show Gj X 0 0 w M J R 0 [some (.ref (w.2.1 0)), some (.int x), none] []
  refine g_bipush (v := 24) C dX7_addFour_0 (by decide) ?_
  refine g_istore_n C V.2.1 dX7_addFour_2 (by decide) rfl ?_
  refine g_iload_n C dX7_addFour_3 rfl ?_
  refine g_if_lt (tgt := 27) C dX7_addFour_4 (by decide) (fun c4 => absurd c4 (by decide)) (fun c4 => ?_)
  refine g_aload_n C dX7_addFour_7 rfl ?_
  refine g_getr (j := 1) C F7 (by rw [hw]; decide) rfl (by decide) 0 (by decide) rfl (hts (.fieldLink RX7 14 "FallBench" "tape" "LFallBench$Row;") (by decide +kernel)) rfl (hR (0, 0, 1) (by decide)) dX7_addFour_8 ?_
  refine g_iload_n C dX7_addFour_11 rfl ?_
  refine g_iload_n C dX7_addFour_12 rfl ?_
  refine g_ishr C dX7_addFour_13 ?_
  refine g_sipush (v := 255) C dX7_addFour_14 (by decide) ?_
  refine g_iand C dX7_addFour_17 ?_
  refine g_callVf C hts V (i := 1) (gX7_addFour_X3_add) rfl hdX3_add (by decide) (c_X3_add (row_1 hw hR)) (by rw [hw]; decide) rfl (by decide) rfl rfl (Nat.le_of_ble_eq_true rfl) dX7_addFour_18 ?_
  refine g_iinc (v := 16) C V.2.1 dX7_addFour_21 rfl (by decide) (by decide) rfl ?_
  refine g_goto (tgt := 3) C dX7_addFour_24 (by decide) ?_
  refine g_iload_n C dX7_addFour_3 rfl ?_
  refine g_if_lt (tgt := 27) C dX7_addFour_4 (by decide) (fun c4 => absurd c4 (by decide)) (fun c4 => ?_)
  refine g_aload_n C dX7_addFour_7 rfl ?_
  refine g_getr (j := 1) C F7 (by rw [hw]; decide) rfl (by decide) 0 (by decide) rfl (hts (.fieldLink RX7 14 "FallBench" "tape" "LFallBench$Row;") (by decide +kernel)) rfl (hR (0, 0, 1) (by decide)) dX7_addFour_8 ?_
  refine g_iload_n C dX7_addFour_11 rfl ?_
  refine g_iload_n C dX7_addFour_12 rfl ?_
  refine g_ishr C dX7_addFour_13 ?_
  refine g_sipush (v := 255) C dX7_addFour_14 (by decide) ?_
  refine g_iand C dX7_addFour_17 ?_
  refine g_callVf C hts V (i := 1) (gX7_addFour_X3_add) rfl hdX3_add (by decide) (c_X3_add (row_1 hw hR)) (by rw [hw]; decide) rfl (by decide) rfl rfl (Nat.le_of_ble_eq_true rfl) dX7_addFour_18 ?_
  refine g_iinc (v := 8) C V.2.1 dX7_addFour_21 rfl (by decide) (by decide) rfl ?_
  refine g_goto (tgt := 3) C dX7_addFour_24 (by decide) ?_
  refine g_iload_n C dX7_addFour_3 rfl ?_
  refine g_if_lt (tgt := 27) C dX7_addFour_4 (by decide) (fun c4 => absurd c4 (by decide)) (fun c4 => ?_)
  refine g_aload_n C dX7_addFour_7 rfl ?_
  refine g_getr (j := 1) C F7 (by rw [hw]; decide) rfl (by decide) 0 (by decide) rfl (hts (.fieldLink RX7 14 "FallBench" "tape" "LFallBench$Row;") (by decide +kernel)) rfl (hR (0, 0, 1) (by decide)) dX7_addFour_8 ?_
  refine g_iload_n C dX7_addFour_11 rfl ?_
  refine g_iload_n C dX7_addFour_12 rfl ?_
  refine g_ishr C dX7_addFour_13 ?_
  refine g_sipush (v := 255) C dX7_addFour_14 (by decide) ?_
  refine g_iand C dX7_addFour_17 ?_
  refine g_callVf C hts V (i := 1) (gX7_addFour_X3_add) rfl hdX3_add (by decide) (c_X3_add (row_1 hw hR)) (by rw [hw]; decide) rfl (by decide) rfl rfl (Nat.le_of_ble_eq_true rfl) dX7_addFour_18 ?_
  refine g_iinc (v := 0) C V.2.1 dX7_addFour_21 rfl (by decide) (by decide) rfl ?_
  refine g_goto (tgt := 3) C dX7_addFour_24 (by decide) ?_
  refine g_iload_n C dX7_addFour_3 rfl ?_
  refine g_if_lt (tgt := 27) C dX7_addFour_4 (by decide) (fun c4 => absurd c4 (by decide)) (fun c4 => ?_)
  refine g_aload_n C dX7_addFour_7 rfl ?_
  refine g_getr (j := 1) C F7 (by rw [hw]; decide) rfl (by decide) 0 (by decide) rfl (hts (.fieldLink RX7 14 "FallBench" "tape" "LFallBench$Row;") (by decide +kernel)) rfl (hR (0, 0, 1) (by decide)) dX7_addFour_8 ?_
  refine g_iload_n C dX7_addFour_11 rfl ?_
  refine g_iload_n C dX7_addFour_12 rfl ?_
  refine g_ishr C dX7_addFour_13 ?_
  refine g_sipush (v := 255) C dX7_addFour_14 (by decide) ?_
  refine g_iand C dX7_addFour_17 ?_
  refine g_callVf C hts V (i := 1) (gX7_addFour_X3_add) rfl hdX3_add (by decide) (c_X3_add (row_1 hw hR)) (by rw [hw]; decide) rfl (by decide) rfl rfl (Nat.le_of_ble_eq_true rfl) dX7_addFour_18 ?_
  refine g_iinc (v := (-8)) C V.2.1 dX7_addFour_21 rfl (by decide) (by decide) rfl ?_
  refine g_goto (tgt := 3) C dX7_addFour_24 (by decide) ?_
  refine g_iload_n C dX7_addFour_3 rfl ?_
  refine g_if_lt (tgt := 27) C dX7_addFour_4 (by decide) (fun c4 => ?_) (fun c4 => absurd c4 (by decide))
  exact g_vret C Rr ⟨rfl, ⟨rfl, rfl⟩⟩ dX7_addFour_27

def add20 (M : Nat → Nat → Int32) (a b c d e : Int32) : Nat → Nat → Int32 := add4 (add4 (add4 (add4 (add4 M a) b) c) d) e

set_option maxHeartbeats 4000000 in
set_option maxRecDepth 100000 in
theorem c_X7_feed {l : Launch} {D : va_G} {w : gw} {M : Nat → Nat → Int32} {J : Nat → Nat → Int64} {R : Nat → Nat → Option Nat} (hw : w.1 = 166) (hR : LayC R) {a b c d e : Int32} : Cf l yX7_feed wsX7_feed ({ frames := 2, cells := 0, slots := 0, locals := 43 } : Room) D w [.ref (w.2.1 0), .int a, .int b, .int c, .int d, .int e] M J R (some (.int (if M 1 1 + 20 ≤ 1000 then add20 M a b c d e 1 1 else -1))) (if M 1 1 + 20 ≤ 1000 then add20 M a b c d e else M) J R := by
  refine Cg.of (own := RX7) (cc := cX7_feed) (maxL := 6) (ret := (some .int)) 0 (by decide) rfl rfl (Nat.le_of_ble_eq_true rfl) (fun X C hts V Rr => ?_)
  have F7 : FW X 7 := fun q h => hts q (List.mem_cons_of_mem _ (List.mem_append_left _ (List.mem_append_right _ h)))
  have F3 : FW X 3 := fun q h => hts q (List.mem_cons_of_mem _ (List.mem_append_right _ h))
  show Gj X 0 0 w M J R 0 [some (.ref (w.2.1 0)), some (.int a), some (.int b), some (.int c), some (.int d), some (.int e)] []
  refine g_aload_n C dX7_feed_0 rfl ?_
  refine g_getr (j := 1) C F7 (by rw [hw]; decide) rfl (by decide) 0 (by decide) rfl (hts (.fieldLink RX7 14 "FallBench" "tape" "LFallBench$Row;") (by decide +kernel)) rfl (hR (0, 0, 1) (by decide)) dX7_feed_1 ?_
  refine g_geti C F3 (by rw [hw]; decide) rfl (by decide) 1 (by decide) rfl (hts (.fieldLink RX7 71 "FallBench$Row" "length" "I") (by decide +kernel)) rfl rfl dX7_feed_4 ?_
  refine g_bipush (v := 20) C dX7_feed_7 (by decide) ?_
  refine g_iadd C dX7_feed_9 ?_
  refine g_sipush (v := 1000) C dX7_feed_10 (by decide) ?_
  refine g_icmp_le (tgt := 18) C dX7_feed_13 (by decide) (fun c13 => ?_) (fun c13 => ?_)
  · refine g_aload_n C dX7_feed_18 rfl ?_
    refine g_iload_n C dX7_feed_19 rfl ?_
    refine g_callVf C hts V (i := 0) (gX7_feed_X7_addFour) rfl hdX7_addFour (by decide) (c_X7_addFour hw hR) (by rw [hw]; decide) rfl (by decide) rfl rfl (Nat.le_of_ble_eq_true rfl) dX7_feed_20 ?_
    refine g_aload_n C dX7_feed_23 rfl ?_
    refine g_iload_n C dX7_feed_24 rfl ?_
    refine g_callVf C hts V (i := 0) (gX7_feed_X7_addFour) rfl hdX7_addFour (by decide) (c_X7_addFour hw hR) (by rw [hw]; decide) rfl (by decide) rfl rfl (Nat.le_of_ble_eq_true rfl) dX7_feed_25 ?_
    refine g_aload_n C dX7_feed_28 rfl ?_
    refine g_iload_n C dX7_feed_29 rfl ?_
    refine g_callVf C hts V (i := 0) (gX7_feed_X7_addFour) rfl hdX7_addFour (by decide) (c_X7_addFour hw hR) (by rw [hw]; decide) rfl (by decide) rfl rfl (Nat.le_of_ble_eq_true rfl) dX7_feed_30 ?_
    refine g_aload_n C dX7_feed_33 rfl ?_
    refine g_iload C dX7_feed_34 rfl ?_
    refine g_callVf C hts V (i := 0) (gX7_feed_X7_addFour) rfl hdX7_addFour (by decide) (c_X7_addFour hw hR) (by rw [hw]; decide) rfl (by decide) rfl rfl (Nat.le_of_ble_eq_true rfl) dX7_feed_36 ?_
    refine g_aload_n C dX7_feed_39 rfl ?_
    refine g_iload C dX7_feed_40 rfl ?_
    refine g_callVf C hts V (i := 0) (gX7_feed_X7_addFour) rfl hdX7_addFour (by decide) (c_X7_addFour hw hR) (by rw [hw]; decide) rfl (by decide) rfl rfl (Nat.le_of_ble_eq_true rfl) dX7_feed_42 ?_
    refine g_aload_n C dX7_feed_45 rfl ?_
    refine g_getr (j := 1) C F7 (by rw [hw]; decide) rfl (by decide) 0 (by decide) rfl (hts (.fieldLink RX7 14 "FallBench" "tape" "LFallBench$Row;") (by decide +kernel)) rfl (hR (0, 0, 1) (by decide)) dX7_feed_46 ?_
    refine g_geti C F3 (by rw [hw]; decide) rfl (by decide) 1 (by decide) rfl (hts (.fieldLink RX7 71 "FallBench$Row" "length" "I") (by decide +kernel)) rfl rfl dX7_feed_49 ?_
    exact g_iret C Rr ⟨rfl, ⟨by simp only [add20, if_pos c13], by simp only [add20, if_pos c13]⟩⟩ dX7_feed_52
  · refine g_iconst (v := (-1)) C dX7_feed_16 (by decide) ?_
    exact g_iret C Rr ⟨rfl, ⟨by simp only [add20, if_neg c13], by simp only [add20, if_neg c13]⟩⟩ dX7_feed_17

def f_sel (a b c d e k : Int32) : Int32 := if 4 ≤ k then (if 8 ≤ k then (if 12 ≤ k then (if 16 ≤ k then e else d) else c) else b) else a
def f_byte (a b c d e : Int32) (k : Nat) : Int32 := vp_nar .byte ((f_sel a b c d e (nI k)) >>> ((24 - 8 * (nI k &&& 3)) &&& 31)).toInt8.toInt32
def f_mem (M : Nat → Nat → Int32) (q t : Nat) (F : Nat → Int32) (j : Nat) : Nat → Nat → Int32 := fun a b => if a = q ∧ t ≤ b ∧ b < t + j then F (b - t) else M a b
theorem f_mem_0 (M : Nat → Nat → Int32) (q t : Nat) (F : Nat → Int32) : f_mem M q t F 0 = M := by
  funext a b; simp only [f_mem]; exact if_neg (by omega)
theorem f_mem_s (M : Nat → Nat → Int32) (q t : Nat) (F : Nat → Int32) (j : Nat) : up2 (f_mem M q t F j) q (t + j) (F j) = f_mem M q t F (j + 1) := by
  funext a b
  simp only [up2, f_mem]
  by_cases h : a = q ∧ b = t + j
  · rw [if_pos h, if_pos ⟨h.1, by omega, by omega⟩, h.2, Nat.add_sub_cancel_left]
  · rw [if_neg h]
    by_cases h2 : a = q ∧ t ≤ b ∧ b < t + j
    · rw [if_pos h2, if_pos ⟨h2.1, h2.2.1, by omega⟩]
    · rw [if_neg h2, if_neg (fun z => h2 ⟨z.1, z.2.1, by have := fun e => h ⟨z.1, e⟩; omega⟩)]
theorem f_mem_o (M : Nat → Nat → Int32) {q t : Nat} (F : Nat → Int32) (j : Nat) {a b : Nat} (h : a ≠ q) : f_mem M q t F j a b = M a b := by
  simp only [f_mem]; exact if_neg (fun z => h z.1)

set_option maxHeartbeats 4000000 in
set_option maxRecDepth 100000 in
theorem c_X8_feed {l : Launch} {D : va_G} {w : gw} {M : Nat → Nat → Int32} {J : Nat → Nat → Int64} {R : Nat → Nat → Option Nat} (hw : w.1 = 166) (hR : LayM R) {a b c d e : Int32} {t : Nat} (ht : M 134 2 = nI t) (ht2 : t ≤ 1000) : Cf l yX8_feed wsX8_feed ({ frames := 0, cells := 0, slots := 0, locals := 0 } : Room) D w [.ref (w.2.1 134), .int a, .int b, .int c, .int d, .int e] M J R (some (.int (if M 134 2 + 20 ≤ 1000 then M 134 2 + 20 else -1))) (if M 134 2 + 20 ≤ 1000 then up2 (f_mem M 135 t (f_byte a b c d e) 20) 134 2 (M 134 2 + 20) else M) J R := by
  refine Cg.of (own := RX8) (cc := cX8_feed) (maxL := 8) (ret := (some .int)) 2 (by decide) rfl rfl (Nat.le_of_ble_eq_true rfl) (fun X C hts V Rr => ?_)
  have F8 : FW X 8 := fun q h => hts q (List.mem_cons_of_mem _ (List.mem_append_right _ h))
  show Gj X 0 0 w M J R 0 [some (.ref (w.2.1 134)), some (.int a), some (.int b), some (.int c), some (.int d), some (.int e), none, none] []
  by_cases hb : M 134 2 + 20 ≤ 1000
  · have ht20 : t + 20 ≤ 1000 := by rw [ht] at hb; exact (nI_leI (a := t + 20) (b := 1000) (by omega) (by decide)).mp (by rw [← nI_add]; exact hb)
    simp only [if_pos hb] at Rr
    have loop : ∀ dd j z, j + dd = 20 → Gj X 0 0 w (f_mem M 135 t (f_byte a b c d e) j) J R 18 [some (.ref (w.2.1 134)), some (.int a), some (.int b), some (.int c), some (.int d), some (.int e), some (.int (nI j)), z] [] := by
      intro dd
      induction dd with
      | zero =>
        intro j z hj
        obtain rfl : j = 20 := by omega
        refine g_iload C dX8_feed_18 rfl ?_
        refine g_bipush (v := 20) C dX8_feed_20 (by decide) ?_
        refine g_icmp_ge (tgt := 105) C dX8_feed_22 (by decide) (fun c22 => ?_) (fun c22 => absurd c22 (not_not_intro (by decide)))
        refine g_aload_n C dX8_feed_105 rfl ?_
        refine g_dup C dX8_feed_106 rfl ?_
        refine g_geti (v := nI t) C F8 (by rw [hw]; decide) rfl (by decide) 2 (by decide) rfl (hts (.fieldLink RX8 184 "FallBenchModel" "taped" "I") (by decide +kernel)) rfl (by rw [f_mem_o _ _ _ (by decide)]; exact ht) dX8_feed_107 ?_
        refine g_bipush (v := 20) C dX8_feed_110 (by decide) ?_
        refine g_iadd C dX8_feed_112 ?_
        refine g_puti C F8 (by rw [hw]; decide) rfl (by decide) 2 (by decide) rfl (hts (.fieldLink RX8 184 "FallBenchModel" "taped" "I") (by decide +kernel)) rfl rfl rfl rfl dX8_feed_113 ?_
        refine g_aload_n C dX8_feed_116 rfl ?_
        refine g_geti (v := nI t + 20) C F8 (by rw [hw]; decide) rfl (by decide) 2 (by decide) rfl (hts (.fieldLink RX8 184 "FallBenchModel" "taped" "I") (by decide +kernel)) rfl (up2_eq _ _ _ _) dX8_feed_117 ?_
        exact g_iret C Rr ⟨rfl, ⟨by rw [ht], by rw [ht]⟩⟩ dX8_feed_120
      | succ dd ih =>
        intro j z hj
        refine g_iload C dX8_feed_18 rfl ?_
        refine g_bipush (v := 20) C dX8_feed_20 (by decide) ?_
        refine g_icmp_ge (tgt := 105) C dX8_feed_22 (by decide) (fun c22 => absurd c22 (fun y => absurd ((nI_leI (a := 20) (b := j) (by decide) (by omega)).mp y) (by omega))) (fun c22 => ?_)
        refine g_iload C dX8_feed_25 rfl ?_
        refine g_iconst (v := 4) C dX8_feed_27 (by decide) ?_
        refine g_icmp_ge (tgt := 35) C dX8_feed_28 (by decide) (fun c28 => ?_) (fun c28 => ?_)
        · refine g_iload C dX8_feed_35 rfl ?_
          refine g_bipush (v := 8) C dX8_feed_37 (by decide) ?_
          refine g_icmp_ge (tgt := 46) C dX8_feed_39 (by decide) (fun c39 => ?_) (fun c39 => ?_)
          · refine g_iload C dX8_feed_46 rfl ?_
            refine g_bipush (v := 12) C dX8_feed_48 (by decide) ?_
            refine g_icmp_ge (tgt := 57) C dX8_feed_50 (by decide) (fun c50 => ?_) (fun c50 => ?_)
            · refine g_iload C dX8_feed_57 rfl ?_
              refine g_bipush (v := 16) C dX8_feed_59 (by decide) ?_
              refine g_icmp_ge (tgt := 69) C dX8_feed_61 (by decide) (fun c61 => ?_) (fun c61 => ?_)
              · refine g_iload C dX8_feed_69 rfl ?_
                refine g_istore C V.2.1 dX8_feed_71 (by decide) rfl ?_
                refine g_aload_n C dX8_feed_73 rfl ?_
                refine g_getr (j := 135) C F8 (by rw [hw]; decide) rfl (by decide) 0 (by decide) rfl (hts (.fieldLink RX8 7 "FallBenchModel" "tape" "[B") (by decide +kernel)) rfl (hR (0, 135) (by decide)) dX8_feed_74 ?_
                refine g_aload_n C dX8_feed_77 rfl ?_
                refine g_geti (v := nI t) C F8 (by rw [hw]; decide) rfl (by decide) 2 (by decide) rfl (hts (.fieldLink RX8 184 "FallBenchModel" "taped" "I") (by decide +kernel)) rfl (by rw [f_mem_o _ _ _ (by decide)]; exact ht) dX8_feed_78 ?_
                refine g_iload C dX8_feed_81 rfl ?_
                refine g_iadd C dX8_feed_83 ?_
                refine g_iload C dX8_feed_84 rfl ?_
                refine g_bipush (v := 24) C dX8_feed_86 (by decide) ?_
                refine g_bipush (v := 8) C dX8_feed_88 (by decide) ?_
                refine g_iload C dX8_feed_90 rfl ?_
                refine g_iconst (v := 3) C dX8_feed_92 (by decide) ?_
                refine g_iand C dX8_feed_93 ?_
                refine g_imul C dX8_feed_94 ?_
                refine g_isub C dX8_feed_95 ?_
                refine g_ishr C dX8_feed_96 ?_
                refine g_i2b C dX8_feed_97 ?_
                refine g_bast C (by rw [hw]; decide) rfl (by rw [nI_add]; exact vp_in_nI (N := 1020) (by omega) (by decide)) dX8_feed_98 ?_
                refine g_iinc (v := nI (j + 1)) C V.2.1 dX8_feed_99 rfl (nI_succ j).symm (by decide) rfl ?_
                refine g_goto (tgt := 18) C dX8_feed_102 (by decide) ?_
                refine Gj_mem (M' := f_mem M 135 t (f_byte a b c d e) (j + 1)) (by rw [nI_add, nI_clamp (by omega), ← f_mem_s]; simp only [f_byte, f_sel, if_pos c28, if_pos c39, if_pos c50, if_pos c61]) ?_
                exact ih (j + 1) _ (by omega)
              · refine g_iload C dX8_feed_64 rfl ?_
                refine g_goto (tgt := 71) C dX8_feed_66 (by decide) ?_
                refine g_istore C V.2.1 dX8_feed_71 (by decide) rfl ?_
                refine g_aload_n C dX8_feed_73 rfl ?_
                refine g_getr (j := 135) C F8 (by rw [hw]; decide) rfl (by decide) 0 (by decide) rfl (hts (.fieldLink RX8 7 "FallBenchModel" "tape" "[B") (by decide +kernel)) rfl (hR (0, 135) (by decide)) dX8_feed_74 ?_
                refine g_aload_n C dX8_feed_77 rfl ?_
                refine g_geti (v := nI t) C F8 (by rw [hw]; decide) rfl (by decide) 2 (by decide) rfl (hts (.fieldLink RX8 184 "FallBenchModel" "taped" "I") (by decide +kernel)) rfl (by rw [f_mem_o _ _ _ (by decide)]; exact ht) dX8_feed_78 ?_
                refine g_iload C dX8_feed_81 rfl ?_
                refine g_iadd C dX8_feed_83 ?_
                refine g_iload C dX8_feed_84 rfl ?_
                refine g_bipush (v := 24) C dX8_feed_86 (by decide) ?_
                refine g_bipush (v := 8) C dX8_feed_88 (by decide) ?_
                refine g_iload C dX8_feed_90 rfl ?_
                refine g_iconst (v := 3) C dX8_feed_92 (by decide) ?_
                refine g_iand C dX8_feed_93 ?_
                refine g_imul C dX8_feed_94 ?_
                refine g_isub C dX8_feed_95 ?_
                refine g_ishr C dX8_feed_96 ?_
                refine g_i2b C dX8_feed_97 ?_
                refine g_bast C (by rw [hw]; decide) rfl (by rw [nI_add]; exact vp_in_nI (N := 1020) (by omega) (by decide)) dX8_feed_98 ?_
                refine g_iinc (v := nI (j + 1)) C V.2.1 dX8_feed_99 rfl (nI_succ j).symm (by decide) rfl ?_
                refine g_goto (tgt := 18) C dX8_feed_102 (by decide) ?_
                refine Gj_mem (M' := f_mem M 135 t (f_byte a b c d e) (j + 1)) (by rw [nI_add, nI_clamp (by omega), ← f_mem_s]; simp only [f_byte, f_sel, if_pos c28, if_pos c39, if_pos c50, if_neg c61]) ?_
                exact ih (j + 1) _ (by omega)
            · refine g_iload_n C dX8_feed_53 rfl ?_
              refine g_goto (tgt := 71) C dX8_feed_54 (by decide) ?_
              refine g_istore C V.2.1 dX8_feed_71 (by decide) rfl ?_
              refine g_aload_n C dX8_feed_73 rfl ?_
              refine g_getr (j := 135) C F8 (by rw [hw]; decide) rfl (by decide) 0 (by decide) rfl (hts (.fieldLink RX8 7 "FallBenchModel" "tape" "[B") (by decide +kernel)) rfl (hR (0, 135) (by decide)) dX8_feed_74 ?_
              refine g_aload_n C dX8_feed_77 rfl ?_
              refine g_geti (v := nI t) C F8 (by rw [hw]; decide) rfl (by decide) 2 (by decide) rfl (hts (.fieldLink RX8 184 "FallBenchModel" "taped" "I") (by decide +kernel)) rfl (by rw [f_mem_o _ _ _ (by decide)]; exact ht) dX8_feed_78 ?_
              refine g_iload C dX8_feed_81 rfl ?_
              refine g_iadd C dX8_feed_83 ?_
              refine g_iload C dX8_feed_84 rfl ?_
              refine g_bipush (v := 24) C dX8_feed_86 (by decide) ?_
              refine g_bipush (v := 8) C dX8_feed_88 (by decide) ?_
              refine g_iload C dX8_feed_90 rfl ?_
              refine g_iconst (v := 3) C dX8_feed_92 (by decide) ?_
              refine g_iand C dX8_feed_93 ?_
              refine g_imul C dX8_feed_94 ?_
              refine g_isub C dX8_feed_95 ?_
              refine g_ishr C dX8_feed_96 ?_
              refine g_i2b C dX8_feed_97 ?_
              refine g_bast C (by rw [hw]; decide) rfl (by rw [nI_add]; exact vp_in_nI (N := 1020) (by omega) (by decide)) dX8_feed_98 ?_
              refine g_iinc (v := nI (j + 1)) C V.2.1 dX8_feed_99 rfl (nI_succ j).symm (by decide) rfl ?_
              refine g_goto (tgt := 18) C dX8_feed_102 (by decide) ?_
              refine Gj_mem (M' := f_mem M 135 t (f_byte a b c d e) (j + 1)) (by rw [nI_add, nI_clamp (by omega), ← f_mem_s]; simp only [f_byte, f_sel, if_pos c28, if_pos c39, if_neg c50]) ?_
              exact ih (j + 1) _ (by omega)
          · refine g_iload_n C dX8_feed_42 rfl ?_
            refine g_goto (tgt := 71) C dX8_feed_43 (by decide) ?_
            refine g_istore C V.2.1 dX8_feed_71 (by decide) rfl ?_
            refine g_aload_n C dX8_feed_73 rfl ?_
            refine g_getr (j := 135) C F8 (by rw [hw]; decide) rfl (by decide) 0 (by decide) rfl (hts (.fieldLink RX8 7 "FallBenchModel" "tape" "[B") (by decide +kernel)) rfl (hR (0, 135) (by decide)) dX8_feed_74 ?_
            refine g_aload_n C dX8_feed_77 rfl ?_
            refine g_geti (v := nI t) C F8 (by rw [hw]; decide) rfl (by decide) 2 (by decide) rfl (hts (.fieldLink RX8 184 "FallBenchModel" "taped" "I") (by decide +kernel)) rfl (by rw [f_mem_o _ _ _ (by decide)]; exact ht) dX8_feed_78 ?_
            refine g_iload C dX8_feed_81 rfl ?_
            refine g_iadd C dX8_feed_83 ?_
            refine g_iload C dX8_feed_84 rfl ?_
            refine g_bipush (v := 24) C dX8_feed_86 (by decide) ?_
            refine g_bipush (v := 8) C dX8_feed_88 (by decide) ?_
            refine g_iload C dX8_feed_90 rfl ?_
            refine g_iconst (v := 3) C dX8_feed_92 (by decide) ?_
            refine g_iand C dX8_feed_93 ?_
            refine g_imul C dX8_feed_94 ?_
            refine g_isub C dX8_feed_95 ?_
            refine g_ishr C dX8_feed_96 ?_
            refine g_i2b C dX8_feed_97 ?_
            refine g_bast C (by rw [hw]; decide) rfl (by rw [nI_add]; exact vp_in_nI (N := 1020) (by omega) (by decide)) dX8_feed_98 ?_
            refine g_iinc (v := nI (j + 1)) C V.2.1 dX8_feed_99 rfl (nI_succ j).symm (by decide) rfl ?_
            refine g_goto (tgt := 18) C dX8_feed_102 (by decide) ?_
            refine Gj_mem (M' := f_mem M 135 t (f_byte a b c d e) (j + 1)) (by rw [nI_add, nI_clamp (by omega), ← f_mem_s]; simp only [f_byte, f_sel, if_pos c28, if_neg c39]) ?_
            exact ih (j + 1) _ (by omega)
        · refine g_iload_n C dX8_feed_31 rfl ?_
          refine g_goto (tgt := 71) C dX8_feed_32 (by decide) ?_
          refine g_istore C V.2.1 dX8_feed_71 (by decide) rfl ?_
          refine g_aload_n C dX8_feed_73 rfl ?_
          refine g_getr (j := 135) C F8 (by rw [hw]; decide) rfl (by decide) 0 (by decide) rfl (hts (.fieldLink RX8 7 "FallBenchModel" "tape" "[B") (by decide +kernel)) rfl (hR (0, 135) (by decide)) dX8_feed_74 ?_
          refine g_aload_n C dX8_feed_77 rfl ?_
          refine g_geti (v := nI t) C F8 (by rw [hw]; decide) rfl (by decide) 2 (by decide) rfl (hts (.fieldLink RX8 184 "FallBenchModel" "taped" "I") (by decide +kernel)) rfl (by rw [f_mem_o _ _ _ (by decide)]; exact ht) dX8_feed_78 ?_
          refine g_iload C dX8_feed_81 rfl ?_
          refine g_iadd C dX8_feed_83 ?_
          refine g_iload C dX8_feed_84 rfl ?_
          refine g_bipush (v := 24) C dX8_feed_86 (by decide) ?_
          refine g_bipush (v := 8) C dX8_feed_88 (by decide) ?_
          refine g_iload C dX8_feed_90 rfl ?_
          refine g_iconst (v := 3) C dX8_feed_92 (by decide) ?_
          refine g_iand C dX8_feed_93 ?_
          refine g_imul C dX8_feed_94 ?_
          refine g_isub C dX8_feed_95 ?_
          refine g_ishr C dX8_feed_96 ?_
          refine g_i2b C dX8_feed_97 ?_
          refine g_bast C (by rw [hw]; decide) rfl (by rw [nI_add]; exact vp_in_nI (N := 1020) (by omega) (by decide)) dX8_feed_98 ?_
          refine g_iinc (v := nI (j + 1)) C V.2.1 dX8_feed_99 rfl (nI_succ j).symm (by decide) rfl ?_
          refine g_goto (tgt := 18) C dX8_feed_102 (by decide) ?_
          refine Gj_mem (M' := f_mem M 135 t (f_byte a b c d e) (j + 1)) (by rw [nI_add, nI_clamp (by omega), ← f_mem_s]; simp only [f_byte, f_sel, if_neg c28]) ?_
          exact ih (j + 1) _ (by omega)
    refine g_aload_n C dX8_feed_0 rfl ?_
    refine g_geti C F8 (by rw [hw]; decide) rfl (by decide) 2 (by decide) rfl (hts (.fieldLink RX8 184 "FallBenchModel" "taped" "I") (by decide +kernel)) rfl rfl dX8_feed_1 ?_
    refine g_bipush (v := 20) C dX8_feed_4 (by decide) ?_
    refine g_iadd C dX8_feed_6 ?_
    refine g_sipush (v := 1000) C dX8_feed_7 (by decide) ?_
    refine g_icmp_le (tgt := 15) C dX8_feed_10 (by decide) (fun c10 => ?_) (fun c10 => absurd c10 (not_not_intro hb))
    refine g_iconst (v := 0) C dX8_feed_15 (by decide) ?_
    refine g_istore C V.2.1 dX8_feed_16 (by decide) rfl ?_
    rw [← f_mem_0 M 135 t (f_byte a b c d e)]
    exact loop 20 0 _ (by decide)
  · simp only [if_neg hb] at Rr
    refine g_aload_n C dX8_feed_0 rfl ?_
    refine g_geti C F8 (by rw [hw]; decide) rfl (by decide) 2 (by decide) rfl (hts (.fieldLink RX8 184 "FallBenchModel" "taped" "I") (by decide +kernel)) rfl rfl dX8_feed_1 ?_
    refine g_bipush (v := 20) C dX8_feed_4 (by decide) ?_
    refine g_iadd C dX8_feed_6 ?_
    refine g_sipush (v := 1000) C dX8_feed_7 (by decide) ?_
    refine g_icmp_le (tgt := 15) C dX8_feed_10 (by decide) (fun c10 => absurd c10 hb) (fun c10 => ?_)
    refine g_iconst (v := (-1)) C dX8_feed_13 (by decide) ?_
    exact g_iret C Rr ⟨rfl, ⟨rfl, rfl⟩⟩ dX8_feed_14

set_option maxHeartbeats 4000000 in
set_option maxRecDepth 100000 in
theorem c_X7_input {l : Launch} {D : va_G} {w : gw} {M : Nat → Nat → Int32} {J : Nat → Nat → Int64} {R : Nat → Nat → Option Nat} (hw : w.1 = 166) (hR : LayC R) {n t : Nat} (hn : n ≤ 30) (h9 : M 0 9 = nI n) (ht : M 1 1 = nI t) (ht2 : t ≤ 1000) : Cf l yX7_input wsX7_input ({ frames := 2, cells := 0, slots := 0, locals := 43 } : Room) D w [.ref (w.2.1 0)] M J R (some (.int (if 24 < M 1 1 then -1 else if M 0 9 < 30 then M 0 9 + 1 - 1 else -1))) (if 24 < M 1 1 then M else if M 0 9 < 30 then up2 (up2 (b_cp M (74 + 2 * n) 1 t) 1 1 0) 0 9 (M 0 9 + 1) else M) J R := by
  generalize hqe : 74 + 2 * n = q
  refine Cg.of (own := RX7) (cc := cX7_input) (maxL := 1) (ret := (some .int)) 0 (by decide) rfl rfl (Nat.le_of_ble_eq_true rfl) (fun X C hts V Rr => ?_)
  have F7 : FW X 7 := fun q h => hts q (List.mem_cons_of_mem _ (List.mem_append_left _ (List.mem_append_right _ h)))
  have F3 : FW X 3 := fun q h => hts q (List.mem_cons_of_mem _ (List.mem_append_right _ h))
  show Gj X 0 0 w M J R 0 [some (.ref (w.2.1 0))] []
  refine g_aload_n C dX7_input_0 rfl ?_
  refine g_getr (j := 1) C F7 (by rw [hw]; decide) rfl (by decide) 0 (by decide) rfl (hts (.fieldLink RX7 14 "FallBench" "tape" "LFallBench$Row;") (by decide +kernel)) rfl (hR (0, 0, 1) (by decide)) dX7_input_1 ?_
  refine g_geti C F3 (by rw [hw]; decide) rfl (by decide) 1 (by decide) rfl (hts (.fieldLink RX7 71 "FallBench$Row" "length" "I") (by decide +kernel)) rfl rfl dX7_input_4 ?_
  refine g_bipush (v := 24) C dX7_input_7 (by decide) ?_
  refine g_icmp_gt (tgt := 21) C dX7_input_9 (by decide) (fun c9 => ?_) (fun c9 => ?_)
  · refine g_iconst (v := (-1)) C dX7_input_21 (by decide) ?_
    exact g_iret C Rr ⟨rfl, ⟨by simp only [if_pos c9], by simp only [if_pos c9]⟩⟩ dX7_input_22
  · refine g_aload_n C dX7_input_12 rfl ?_
    refine g_geti C F7 (by rw [hw]; decide) rfl (by decide) 9 (by decide) rfl (hts (.fieldLink RX7 62 "FallBench" "inputCount" "I") (by decide +kernel)) rfl rfl dX7_input_13 ?_
    refine g_bipush (v := 30) C dX7_input_16 (by decide) ?_
    refine g_icmp_lt (tgt := 23) C dX7_input_18 (by decide) (fun c18 => ?_) (fun c18 => ?_)
    · refine g_aload_n C dX7_input_23 rfl ?_
      refine g_getr (j := 19) C F7 (by rw [hw]; decide) rfl (by decide) 3 (by decide) rfl (hts (.fieldLink RX7 31 "FallBench" "inputs" "[LFallBench$Row;") (by decide +kernel)) rfl (hR (0, 3, 19) (by decide)) dX7_input_24 ?_
      refine g_aload_n C dX7_input_27 rfl ?_
      refine g_geti C F7 (by rw [hw]; decide) rfl (by decide) 9 (by decide) rfl (hts (.fieldLink RX7 62 "FallBench" "inputCount" "I") (by decide +kernel)) rfl rfl dX7_input_28 ?_
      have hn2 : n < 30 := by rw [h9] at c18; exact (nI_ltI (b := 30) (by omega) (by decide)).mp c18
      have ht24 : t ≤ 24 := by rcases Nat.lt_or_ge 24 t with y | y; exact absurd (show (24 : Int32) < M 1 1 by rw [ht]; exact nI_lt (a := 24) y (by omega)) c9; exact y
      have hq := row_in hw hR hn2
      have hq24 := ln_row hn2
      have hn1 : 1 ≠ q := by omega
      rw [hqe] at hq hq24
      obtain ⟨hq3, hq⟩ := hq
      obtain ⟨q_hi1, q_k, q_k1, q_0⟩ := id hq
      have q_hi : q < w.1 := by omega
      refine g_aald (j := q) C (by rw [hw]; decide) (by decide) (by rw [h9]; exact vp_in_nI (N := 30) hn2 (by decide)) (by rw [h9, nI_clamp (by omega)]; exact hq3) dX7_input_31 ?_
      refine g_aload_n C dX7_input_32 rfl ?_
      refine g_getr (j := 1) C F7 (by rw [hw]; decide) rfl (by decide) 0 (by decide) rfl (hts (.fieldLink RX7 14 "FallBench" "tape" "LFallBench$Row;") (by decide +kernel)) rfl (hR (0, 0, 1) (by decide)) dX7_input_33 ?_
      refine g_callVf C hts V (i := q) (gX7_input_X3_copyFrom) rfl hdX3_copyFrom (by decide) (c_X3_copyFrom hq (row_1 hw hR) hn1 ht (by rw [hq24]; exact ht24) (by exact ht2)) q_hi q_k (by decide) rfl rfl (Nat.le_of_ble_eq_true rfl) dX7_input_36 ?_
      refine g_aload_n C dX7_input_39 rfl ?_
      refine g_getr (j := 1) C F7 (by rw [hw]; decide) rfl (by decide) 0 (by decide) rfl (hts (.fieldLink RX7 14 "FallBench" "tape" "LFallBench$Row;") (by decide +kernel)) rfl (hR (0, 0, 1) (by decide)) dX7_input_40 ?_
      refine g_iconst (v := 0) C dX7_input_43 (by decide) ?_
      refine g_puti C F3 (by rw [hw]; decide) rfl (by decide) 1 (by decide) rfl (hts (.fieldLink RX7 71 "FallBench$Row" "length" "I") (by decide +kernel)) rfl rfl rfl rfl dX7_input_44 ?_
      refine g_aload_n C dX7_input_47 rfl ?_
      refine g_dup C dX7_input_48 rfl ?_
      refine g_geti (v := M 0 9) C F7 (by rw [hw]; decide) rfl (by decide) 9 (by decide) rfl (hts (.fieldLink RX7 62 "FallBench" "inputCount" "I") (by decide +kernel)) rfl (by rw [up2_n1 _ _ (by decide)]; simp only [b_cp]; rw [if_neg (by omega), if_neg (by omega)]) dX7_input_49 ?_
      refine g_iconst (v := 1) C dX7_input_52 (by decide) ?_
      refine g_iadd C dX7_input_53 ?_
      refine g_puti C F7 (by rw [hw]; decide) rfl (by decide) 9 (by decide) rfl (hts (.fieldLink RX7 62 "FallBench" "inputCount" "I") (by decide +kernel)) rfl rfl rfl rfl dX7_input_54 ?_
      refine g_aload_n C dX7_input_57 rfl ?_
      refine g_geti (v := M 0 9 + 1) C F7 (by rw [hw]; decide) rfl (by decide) 9 (by decide) rfl (hts (.fieldLink RX7 62 "FallBench" "inputCount" "I") (by decide +kernel)) rfl (up2_eq _ _ _ _) dX7_input_58 ?_
      refine g_iconst (v := 1) C dX7_input_61 (by decide) ?_
      refine g_isub C dX7_input_62 ?_
      exact g_iret C Rr ⟨rfl, ⟨by simp only [if_neg c9, if_pos c18], by simp only [if_neg c9, if_pos c18]⟩⟩ dX7_input_63
    · refine g_iconst (v := (-1)) C dX7_input_21 (by decide) ?_
      exact g_iret C Rr ⟨rfl, ⟨by simp only [if_neg c9, if_neg c18], by simp only [if_neg c9, if_neg c18]⟩⟩ dX7_input_22

set_option maxHeartbeats 4000000 in
set_option maxRecDepth 100000 in
theorem c_X8_input {l : Launch} {D : va_G} {w : gw} {M : Nat → Nat → Int32} {J : Nat → Nat → Int64} {R : Nat → Nat → Option Nat} (hw : w.1 = 166) (hR : LayM R) {n t : Nat} (hn : n ≤ 30) (h9 : M 134 23 = nI n) (ht : M 134 2 = nI t) (ht2 : t ≤ 1000) : Cf l yX8_input wsX8_input ({ frames := 0, cells := 0, slots := 0, locals := 0 } : Room) D w [.ref (w.2.1 134)] M J R (some (.int (if 24 < M 134 2 then -1 else if M 134 23 = 30 then -1 else M 134 23 + 1 - 1))) (if 24 < M 134 2 then M else if M 134 23 = 30 then M else up2 (up2 (up2 (f_mem M 146 (24 * n) (fun k => M 135 k &&& 255) t) 147 n (nI t)) 134 2 0) 134 23 (M 134 23 + 1)) J R := by
  refine Cg.of (own := RX8) (cc := cX8_input) (maxL := 2) (ret := (some .int)) 1 (by decide) rfl rfl (Nat.le_of_ble_eq_true rfl) (fun X C hts V Rr => ?_)
  have F8 : FW X 8 := fun q h => hts q (List.mem_cons_of_mem _ (List.mem_append_right _ h))
  show Gj X 0 0 w M J R 0 [some (.ref (w.2.1 134)), none] []
  by_cases hb : 24 < M 134 2
  · simp only [if_pos hb] at Rr
    refine g_aload_n C dX8_input_0 rfl ?_
    refine g_geti C F8 (by rw [hw]; decide) rfl (by decide) 2 (by decide) rfl (hts (.fieldLink RX8 184 "FallBenchModel" "taped" "I") (by decide +kernel)) rfl rfl dX8_input_1 ?_
    refine g_bipush (v := 24) C dX8_input_4 (by decide) ?_
    refine g_icmp_gt (tgt := 18) C dX8_input_6 (by decide) (fun c6 => ?_) (fun c6 => absurd c6 (not_not_intro hb))
    refine g_iconst (v := (-1)) C dX8_input_18 (by decide) ?_
    exact g_iret C Rr ⟨rfl, ⟨rfl, rfl⟩⟩ dX8_input_19
  · simp only [if_neg hb] at Rr
    by_cases hc : M 134 23 = 30
    · simp only [if_pos hc] at Rr
      refine g_aload_n C dX8_input_0 rfl ?_
      refine g_geti C F8 (by rw [hw]; decide) rfl (by decide) 2 (by decide) rfl (hts (.fieldLink RX8 184 "FallBenchModel" "taped" "I") (by decide +kernel)) rfl rfl dX8_input_1 ?_
      refine g_bipush (v := 24) C dX8_input_4 (by decide) ?_
      refine g_icmp_gt (tgt := 18) C dX8_input_6 (by decide) (fun c6 => absurd c6 hb) (fun c6 => ?_)
      refine g_aload_n C dX8_input_9 rfl ?_
      refine g_geti C F8 (by rw [hw]; decide) rfl (by decide) 23 (by decide) rfl (hts (.fieldLink RX8 225 "FallBenchModel" "inputMany" "I") (by decide +kernel)) rfl rfl dX8_input_10 ?_
      refine g_bipush (v := 30) C dX8_input_13 (by decide) ?_
      refine g_icmp_ne (tgt := 20) C dX8_input_15 (by decide) (fun c15 => absurd c15 (not_not_intro hc)) (fun c15 => ?_)
      refine g_iconst (v := (-1)) C dX8_input_18 (by decide) ?_
      exact g_iret C Rr ⟨rfl, ⟨rfl, rfl⟩⟩ dX8_input_19
    · simp only [if_neg hc] at Rr
      have ht24 : t ≤ 24 := by rcases Nat.lt_or_ge 24 t with y | y; exact absurd (show (24 : Int32) < M 134 2 by rw [ht]; exact nI_lt (a := 24) y (by omega)) hb; exact y
      have hn2 : n < 30 := by rcases Nat.lt_or_ge n 30 with y | y; exact y; exact absurd (by rw [h9, show n = 30 by omega]; rfl) hc
      have loop : ∀ dd j, j + dd = t → Gj X 0 0 w (f_mem M 146 (24 * n) (fun k => M 135 k &&& 255) j) J R 22 [some (.ref (w.2.1 134)), some (.int (nI j))] [] := by
        intro dd
        induction dd with
        | zero =>
          intro j hj
          obtain rfl : j = t := by omega
          refine g_iload_n C dX8_input_22 rfl ?_
          refine g_aload_n C dX8_input_23 rfl ?_
          refine g_geti (v := nI j) C F8 (by rw [hw]; decide) rfl (by decide) 2 (by decide) rfl (hts (.fieldLink RX8 184 "FallBenchModel" "taped" "I") (by decide +kernel)) rfl (by rw [f_mem_o _ _ _ (by decide)]; exact ht) dX8_input_24 ?_
          refine g_icmp_ge (tgt := 60) C dX8_input_27 (by decide) (fun c27 => ?_) (fun c27 => absurd c27 (not_not_intro (nI_le (Nat.le_refl _) (by omega))))
          refine g_aload_n C dX8_input_60 rfl ?_
          refine g_getr (j := 147) C F8 (by rw [hw]; decide) rfl (by decide) 22 (by decide) rfl (hts (.fieldLink RX8 52 "FallBenchModel" "inputSize" "[I") (by decide +kernel)) rfl (hR (22, 147) (by decide)) dX8_input_61 ?_
          refine g_aload_n C dX8_input_64 rfl ?_
          refine g_geti (v := nI n) C F8 (by rw [hw]; decide) rfl (by decide) 23 (by decide) rfl (hts (.fieldLink RX8 225 "FallBenchModel" "inputMany" "I") (by decide +kernel)) rfl (by rw [f_mem_o _ _ _ (by decide)]; exact h9) dX8_input_65 ?_
          refine g_aload_n C dX8_input_68 rfl ?_
          refine g_geti (v := nI j) C F8 (by rw [hw]; decide) rfl (by decide) 2 (by decide) rfl (hts (.fieldLink RX8 184 "FallBenchModel" "taped" "I") (by decide +kernel)) rfl (by rw [f_mem_o _ _ _ (by decide)]; exact ht) dX8_input_69 ?_
          refine g_iast C (by rw [hw]; decide) rfl (vp_in_nI (N := 30) hn2 (by decide)) dX8_input_72 ?_
          refine g_aload_n C dX8_input_73 rfl ?_
          refine g_iconst (v := 0) C dX8_input_74 (by decide) ?_
          refine g_puti C F8 (by rw [hw]; decide) rfl (by decide) 2 (by decide) rfl (hts (.fieldLink RX8 184 "FallBenchModel" "taped" "I") (by decide +kernel)) rfl rfl rfl rfl dX8_input_75 ?_
          refine g_aload_n C dX8_input_78 rfl ?_
          refine g_dup C dX8_input_79 rfl ?_
          refine g_geti (v := nI n) C F8 (by rw [hw]; decide) rfl (by decide) 23 (by decide) rfl (hts (.fieldLink RX8 225 "FallBenchModel" "inputMany" "I") (by decide +kernel)) rfl (by rw [up2_n2 _ _ (by decide), up2_n1 _ _ (by decide), f_mem_o _ _ _ (by decide)]; exact h9) dX8_input_80 ?_
          refine g_iconst (v := 1) C dX8_input_83 (by decide) ?_
          refine g_iadd C dX8_input_84 ?_
          refine g_puti C F8 (by rw [hw]; decide) rfl (by decide) 23 (by decide) rfl (hts (.fieldLink RX8 225 "FallBenchModel" "inputMany" "I") (by decide +kernel)) rfl rfl rfl rfl dX8_input_85 ?_
          refine g_aload_n C dX8_input_88 rfl ?_
          refine g_geti (v := nI n + 1) C F8 (by rw [hw]; decide) rfl (by decide) 23 (by decide) rfl (hts (.fieldLink RX8 225 "FallBenchModel" "inputMany" "I") (by decide +kernel)) rfl (up2_eq _ _ _ _) dX8_input_89 ?_
          refine g_iconst (v := 1) C dX8_input_92 (by decide) ?_
          refine g_isub C dX8_input_93 ?_
          exact g_iret C Rr ⟨rfl, ⟨by rw [h9], by rw [h9, nI_clamp (by omega)]⟩⟩ dX8_input_94
        | succ dd ih =>
          intro j hj
          have hix : nI 24 * nI n + nI j = nI (24 * n + j) := by rw [pk_mul, nI_add]
          refine g_iload_n C dX8_input_22 rfl ?_
          refine g_aload_n C dX8_input_23 rfl ?_
          refine g_geti (v := nI t) C F8 (by rw [hw]; decide) rfl (by decide) 2 (by decide) rfl (hts (.fieldLink RX8 184 "FallBenchModel" "taped" "I") (by decide +kernel)) rfl (by rw [f_mem_o _ _ _ (by decide)]; exact ht) dX8_input_24 ?_
          refine g_icmp_ge (tgt := 60) C dX8_input_27 (by decide) (fun c27 => absurd c27 (nI_ge (by omega) (by omega))) (fun c27 => ?_)
          refine g_aload_n C dX8_input_30 rfl ?_
          refine g_getr (j := 146) C F8 (by rw [hw]; decide) rfl (by decide) 21 (by decide) rfl (hts (.fieldLink RX8 49 "FallBenchModel" "inputs" "[I") (by decide +kernel)) rfl (hR (21, 146) (by decide)) dX8_input_31 ?_
          refine g_bipush (v := 24) C dX8_input_34 (by decide) ?_
          refine g_aload_n C dX8_input_36 rfl ?_
          refine g_geti (v := nI n) C F8 (by rw [hw]; decide) rfl (by decide) 23 (by decide) rfl (hts (.fieldLink RX8 225 "FallBenchModel" "inputMany" "I") (by decide +kernel)) rfl (by rw [f_mem_o _ _ _ (by decide)]; exact h9) dX8_input_37 ?_
          refine g_imul C dX8_input_40 ?_
          refine g_iload_n C dX8_input_41 rfl ?_
          refine g_iadd C dX8_input_42 ?_
          refine g_aload_n C dX8_input_43 rfl ?_
          refine g_getr (j := 135) C F8 (by rw [hw]; decide) rfl (by decide) 0 (by decide) rfl (hts (.fieldLink RX8 7 "FallBenchModel" "tape" "[B") (by decide +kernel)) rfl (hR (0, 135) (by decide)) dX8_input_44 ?_
          refine g_iload_n C dX8_input_47 rfl ?_
          refine g_bald (v := M 135 j) C (by rw [hw]; decide) rfl (vp_in_nI (N := 1020) (by omega) (by decide)) (by rw [nI_clamp (by omega), f_mem_o _ _ _ (by decide)]) dX8_input_48 ?_
          refine g_sipush (v := 255) C dX8_input_49 (by decide) ?_
          refine g_iand C dX8_input_52 ?_
          refine g_iast C (by rw [hw]; decide) rfl (by rw [show (24 : Int32) * nI n + nI j = nI (24 * n + j) from hix]; exact vp_in_nI (N := 720) (by omega) (by decide)) dX8_input_53 ?_
          refine g_iinc (v := nI (j + 1)) C V.2.1 dX8_input_54 rfl (nI_succ j).symm (by decide) rfl ?_
          refine g_goto (tgt := 22) C dX8_input_57 (by decide) ?_
          refine Gj_mem (M' := f_mem M 146 (24 * n) (fun k => M 135 k &&& 255) (j + 1)) (by rw [show (24 : Int32) * nI n + nI j = nI (24 * n + j) from hix, nI_clamp (by omega), ← f_mem_s]) ?_
          exact ih (j + 1) (by omega)
      refine g_aload_n C dX8_input_0 rfl ?_
      refine g_geti C F8 (by rw [hw]; decide) rfl (by decide) 2 (by decide) rfl (hts (.fieldLink RX8 184 "FallBenchModel" "taped" "I") (by decide +kernel)) rfl rfl dX8_input_1 ?_
      refine g_bipush (v := 24) C dX8_input_4 (by decide) ?_
      refine g_icmp_gt (tgt := 18) C dX8_input_6 (by decide) (fun c6 => absurd c6 hb) (fun c6 => ?_)
      refine g_aload_n C dX8_input_9 rfl ?_
      refine g_geti C F8 (by rw [hw]; decide) rfl (by decide) 23 (by decide) rfl (hts (.fieldLink RX8 225 "FallBenchModel" "inputMany" "I") (by decide +kernel)) rfl rfl dX8_input_10 ?_
      refine g_bipush (v := 30) C dX8_input_13 (by decide) ?_
      refine g_icmp_ne (tgt := 20) C dX8_input_15 (by decide) (fun c15 => ?_) (fun c15 => absurd c15 hc)
      refine g_iconst (v := 0) C dX8_input_20 (by decide) ?_
      refine g_istore_n C V.2.1 dX8_input_21 (by decide) rfl ?_
      rw [← f_mem_0 M 146 (24 * n) (fun k => M 135 k &&& 255)]
      exact loop t 0 (by omega)

set_option maxHeartbeats 4000000 in
set_option maxRecDepth 100000 in
theorem c_X8_use {l : Launch} {D : va_G} {w : gw} {M : Nat → Nat → Int32} {J : Nat → Nat → Int64} {R : Nat → Nat → Option Nat} (hw : w.1 = 166) (hR : LayM R) {i z : Nat} (hi : i < 30) (hz : M 147 i = nI z) (hz2 : z ≤ 24) : Cf l yX8_use wsX8_use ({ frames := 0, cells := 0, slots := 0, locals := 0 } : Room) D w [.ref (w.2.1 134), .int (nI i)] M J R none (f_mem (up2 M 134 29 (nI z)) 148 0 (fun k => M 146 (24 * i + k)) z) J R := by
  refine Cg.of (own := RX8) (cc := cX8_use) (maxL := 3) (ret := none) 1 (by decide) rfl rfl (Nat.le_of_ble_eq_true rfl) (fun X C hts V Rr => ?_)
  have F8 : FW X 8 := fun q h => hts q (List.mem_cons_of_mem _ (List.mem_append_right _ h))
  show Gj X 0 0 w M J R 0 [some (.ref (w.2.1 134)), some (.int (nI i)), none] []
  have loop : ∀ dd j, j + dd = z → Gj X 0 0 w (f_mem (up2 M 134 29 (nI z)) 148 0 (fun k => M 146 (24 * i + k)) j) J R 12 [some (.ref (w.2.1 134)), some (.int (nI i)), some (.int (nI j))] [] := by
    intro dd
    induction dd with
    | zero =>
      intro j hj
      obtain rfl : j = z := by omega
      refine g_iload_n C dX8_use_12 rfl ?_
      refine g_aload_n C dX8_use_13 rfl ?_
      refine g_geti (v := nI j) C F8 (by rw [hw]; decide) rfl (by decide) 29 (by decide) rfl (hts (.fieldLink RX8 231 "FallBenchModel" "byteMany" "I") (by decide +kernel)) rfl (by rw [f_mem_o _ _ _ (by decide), up2_eq]) dX8_use_14 ?_
      refine g_icmp_ge (tgt := 43) C dX8_use_17 (by decide) (fun c17 => ?_) (fun c17 => absurd c17 (not_not_intro (nI_le (Nat.le_refl _) (by omega))))
      exact g_vret C Rr ⟨rfl, ⟨rfl, rfl⟩⟩ dX8_use_43
    | succ dd ih =>
      intro j hj
      have hix : (24 : Int32) * nI i + nI j = nI (24 * i + j) := by rw [show (24 : Int32) * nI i = nI (24 * i) from pk_mul 24 i, nI_add]
      refine g_iload_n C dX8_use_12 rfl ?_
      refine g_aload_n C dX8_use_13 rfl ?_
      refine g_geti (v := nI z) C F8 (by rw [hw]; decide) rfl (by decide) 29 (by decide) rfl (hts (.fieldLink RX8 231 "FallBenchModel" "byteMany" "I") (by decide +kernel)) rfl (by rw [f_mem_o _ _ _ (by decide), up2_eq]) dX8_use_14 ?_
      refine g_icmp_ge (tgt := 43) C dX8_use_17 (by decide) (fun c17 => absurd c17 (nI_ge (by omega) (by omega))) (fun c17 => ?_)
      refine g_aload_n C dX8_use_20 rfl ?_
      refine g_getr (j := 148) C F8 (by rw [hw]; decide) rfl (by decide) 24 (by decide) rfl (hts (.fieldLink RX8 55 "FallBenchModel" "bytes" "[I") (by decide +kernel)) rfl (hR (24, 148) (by decide)) dX8_use_21 ?_
      refine g_iload_n C dX8_use_24 rfl ?_
      refine g_aload_n C dX8_use_25 rfl ?_
      refine g_getr (j := 146) C F8 (by rw [hw]; decide) rfl (by decide) 21 (by decide) rfl (hts (.fieldLink RX8 49 "FallBenchModel" "inputs" "[I") (by decide +kernel)) rfl (hR (21, 146) (by decide)) dX8_use_26 ?_
      refine g_bipush (v := 24) C dX8_use_29 (by decide) ?_
      refine g_iload_n C dX8_use_31 rfl ?_
      refine g_imul C dX8_use_32 ?_
      refine g_iload_n C dX8_use_33 rfl ?_
      refine g_iadd C dX8_use_34 ?_
      refine g_iald (v := M 146 (24 * i + j)) C (by rw [hw]; decide) rfl (by rw [hix]; exact vp_in_nI (N := 720) (by omega) (by decide)) (by rw [hix, nI_clamp (by omega), f_mem_o _ _ _ (by decide), up2_n1 _ _ (by decide)]) dX8_use_35 ?_
      refine g_iast C (by rw [hw]; decide) rfl (vp_in_nI (N := 24) (by omega) (by decide)) dX8_use_36 ?_
      refine g_iinc (v := nI (j + 1)) C V.2.1 dX8_use_37 rfl (nI_succ j).symm (by decide) rfl ?_
      refine g_goto (tgt := 12) C dX8_use_40 (by decide) ?_
      refine Gj_mem (M' := f_mem (up2 M 134 29 (nI z)) 148 0 (fun k => M 146 (24 * i + k)) (j + 1)) (by rw [nI_clamp (by omega), ← f_mem_s, Nat.zero_add]) ?_
      exact ih (j + 1) (by omega)
  refine g_aload_n C dX8_use_0 rfl ?_
  refine g_aload_n C dX8_use_1 rfl ?_
  refine g_getr (j := 147) C F8 (by rw [hw]; decide) rfl (by decide) 22 (by decide) rfl (hts (.fieldLink RX8 52 "FallBenchModel" "inputSize" "[I") (by decide +kernel)) rfl (hR (22, 147) (by decide)) dX8_use_2 ?_
  refine g_iload_n C dX8_use_5 rfl ?_
  refine g_iald (v := nI z) C (by rw [hw]; decide) rfl (vp_in_nI (N := 30) hi (by decide)) (by rw [nI_clamp (by omega)]; exact hz) dX8_use_6 ?_
  refine g_puti C F8 (by rw [hw]; decide) rfl (by decide) 29 (by decide) rfl (hts (.fieldLink RX8 231 "FallBenchModel" "byteMany" "I") (by decide +kernel)) rfl rfl rfl rfl dX8_use_7 ?_
  refine g_iconst (v := 0) C dX8_use_10 (by decide) ?_
  refine g_istore_n C V.2.1 dX8_use_11 (by decide) rfl ?_
  rw [← f_mem_0 (up2 M 134 29 (nI z)) 148 0 (fun k => M 146 (24 * i + k))]
  exact loop z 0 (by omega)
