/-! more of the simple methods -/
theorem g_mmin {X : gX} {own : String} {cc : ByteArray} {a b pc : Nat} {w : gw} {M : Nat → Nat → Int32} {J : Nat → Nat → Int64} {R : Nat → Nat → Option Nat} {lv : List (Option Value)} {rest : List Value} (C : Cx X own cc) {l : Launch} {D : va_G} {rm0 : Room} {nL : Nat} {nm : String} (V : Cv X l D rm0 nL nm) {index : Nat} (hlink : CB X (.methodLink own index Lib.Math.min.name)) (hstat : CB X (.static Lib.Math.min.name)) (hini : CB X (.initialized "java/lang/Math")) (hcode : CB X (.code Lib.Math.min.name Lib.Math.min.code 2 (some .int))) (hroom : 1 ≤ rm0.frames ∧ (rest.map fun v => v.category).sum + 13 ≤ rm0.locals ∧ a ≤ rm0.cells ∧ b ≤ rm0.slots) {x y : Int32} (d : decode cc pc = .ok (.invokestatic index, 3)) (kk : Gj X a b w M J R (pc + 3) lv (.int (if y < x then y else x) :: rest)) : Gj X a b w M J R pc lv (.int y :: .int x :: rest) := by
  obtain ⟨hR, -⟩ := V
  intro H locs ls h1 h2 h3 h4 h5 h6
  exact va_mmin C.1 C.2.1 h6.1.symm C.2.2.1 hlink hstat hini hcode (by rw [hR]; exact hroom.1) (by rw [hR]; exact hroom.2.1) (by rw [hR]; exact hroom.2.2.1) (by rw [hR]; exact hroom.2.2.2) d (kk H locs ls h1 h2 h3 h4 h5 h6)
theorem ce_in {k : Int32} (h : ¬ isCe k = 0) : vp_in k 40 := by
  have h0 : ¬ k < 0 := fun z => h (by simp only [isCe, if_pos z])
  have h1 : ¬ 40 ≤ k := fun z => h (by simp only [isCe, if_neg h0, if_pos z])
  exact inOf (n := 40) (by decide) h0 h1
theorem min_le {x y k : Int32} (h0 : ¬ k < 0) (h : k < (if y < x then y else x)) : vp_in k 40 → vp_in k 40 := id
theorem lt_min {x k : Int32} (h : k < (if (40 : Int32) < x then 40 else x)) : k < 40 := by
  split at h
  · exact h
  · rename_i z; rw [Int32.lt_iff_toInt_lt] at h z ⊢; omega
theorem ab_in {x : Int32} (h1 : ¬ x < 10) (h2 : ¬ 13 ≤ x) : vp_in (x - 10) 3 := by
  have h0 : ¬ x < 0 := fun z => h1 (by rw [Int32.lt_iff_toInt_lt] at z ⊢; have : (10 : Int32).toInt = 10 := by decide
                                       have : (0 : Int32).toInt = 0 := by decide
                                       omega)
  obtain ⟨j, hj, rfl⟩ := nI_of h0
  have a : 10 ≤ j := by
    rcases Nat.lt_or_ge j 10 with e | e
    · exact absurd (nI_lt (b := 10) e (by decide)) h1
    · exact e
  have b : j < 13 := by
    rcases Nat.lt_or_ge j 13 with e | e
    · exact e
    · exact absurd (nI_le (a := 13) e hj) h2
  rw [show nI j - 10 = nI (j - 10) from pk_sub (b := 10) a]
  exact vp_in_nI (by omega) (by decide)

set_option maxHeartbeats 4000000 in
set_option maxRecDepth 100000 in
theorem c_X7_told {l : Launch} {D : va_G} {w : gw} {M : Nat → Nat → Int32} {J : Nat → Nat → Int64} {R : Nat → Nat → Option Nat} (hw : w.1 = 166) (hR : LayC R) {k : Int32} : Cf l yX7_told wsX7_told ({ frames := 1, cells := 0, slots := 0, locals := 21 } : Room) D w [.ref (w.2.1 0), .int k] M J R (some (.int (if M 0 10 = 0 then 0 else if k < 0 then 0 else if k < (if 40 < M 20 4 then 40 else M 20 4) then M 24 k.toNatClampNeg else 0))) M J R := by
  refine Cg.of (own := RX7) (cc := cX7_told) (maxL := 2) (ret := (some .int)) 0 (by decide) rfl rfl (Nat.le_of_ble_eq_true rfl) (fun X C hts V Rr => ?_)
  have F7 : FW X 7 := fun q h => hts q (List.mem_cons_of_mem _ (List.mem_append_left _ (List.mem_append_right _ h)))
  have F0 : FW X 0 := fun q h => hts q (List.mem_cons_of_mem _ (List.mem_append_right _ h))
  show Gj X 0 0 w M J R 0 [some (.ref (w.2.1 0)), some (.int k)] []
  refine g_aload_n C dX7_told_0 rfl ?_
  refine g_geti C F7 (by rw [hw]; decide) rfl (by decide) 10 (by decide) rfl (hts (.fieldLink RX7 66 "FallBench" "hasRun" "Z") (by decide +kernel)) rfl rfl dX7_told_1 ?_
  refine g_if_eq (tgt := 27) C dX7_told_4 (by decide) (fun c4 => ?_) (fun c4 => ?_)
  · refine g_iconst (v := 0) C dX7_told_27 (by decide) ?_
    exact g_iret C Rr ⟨rfl, ⟨by simp only [if_pos c4], rfl⟩⟩ dX7_told_28
  · refine g_iload_n C dX7_told_7 rfl ?_
    refine g_if_lt (tgt := 27) C dX7_told_8 (by decide) (fun c8 => ?_) (fun c8 => ?_)
    · refine g_iconst (v := 0) C dX7_told_27 (by decide) ?_
      exact g_iret C Rr ⟨rfl, ⟨by simp only [if_neg c4, if_pos c8], rfl⟩⟩ dX7_told_28
    · refine g_iload_n C dX7_told_11 rfl ?_
      refine g_aload_n C dX7_told_12 rfl ?_
      refine g_getr (j := 20) C F7 (by rw [hw]; decide) rfl (by decide) 4 (by decide) rfl (hts (.fieldLink RX7 38 "FallBench" "latest" "LFallBench$Machine;") (by decide +kernel)) rfl (hR (0, 4, 20) (by decide)) dX7_told_13 ?_
      refine g_geti C F0 (by rw [hw]; decide) rfl (by decide) 4 (by decide) rfl (hts (.fieldLink RX7 144 "FallBench$Machine" "toldCount" "I") (by decide +kernel)) rfl rfl dX7_told_16 ?_
      refine g_bipush (v := 40) C dX7_told_19 (by decide) ?_
      refine g_mmin C V (hts (.methodLink RX7 150 Lib.Math.min.name) (by decide +kernel)) (hts (.static Lib.Math.min.name) (by decide +kernel)) (hts (.initialized "java/lang/Math") (by decide +kernel)) (hts (.code Lib.Math.min.name Lib.Math.min.code 2 (some .int)) (by decide +kernel)) ⟨by decide, Nat.le_of_ble_eq_true rfl, by decide, by decide⟩ dX7_told_21 ?_
      refine g_icmp_lt (tgt := 29) C dX7_told_24 (by decide) (fun c24 => ?_) (fun c24 => ?_)
      · refine g_aload_n C dX7_told_29 rfl ?_
        refine g_getr (j := 20) C F7 (by rw [hw]; decide) rfl (by decide) 4 (by decide) rfl (hts (.fieldLink RX7 38 "FallBench" "latest" "LFallBench$Machine;") (by decide +kernel)) rfl (hR (0, 4, 20) (by decide)) dX7_told_30 ?_
        refine g_getr (j := 24) C F0 (by rw [hw]; decide) rfl (by decide) 3 (by decide) rfl (hts (.fieldLink RX7 156 "FallBench$Machine" "toldValues" "[I") (by decide +kernel)) rfl (hR (20, 3, 24) (by decide)) dX7_told_33 ?_
        refine g_iload_n C dX7_told_36 rfl ?_
        refine g_iald C (by rw [hw]; decide) rfl (inOf (n := 40) (by decide) c8 (nlt_nle (lt_min c24))) rfl dX7_told_37 ?_
        exact g_iret C Rr ⟨rfl, ⟨by simp only [if_neg c4, if_neg c8, if_pos c24], rfl⟩⟩ dX7_told_38
      · refine g_iconst (v := 0) C dX7_told_27 (by decide) ?_
        exact g_iret C Rr ⟨rfl, ⟨by simp only [if_neg c4, if_neg c8, if_neg c24], rfl⟩⟩ dX7_told_28

set_option maxHeartbeats 4000000 in
set_option maxRecDepth 100000 in
theorem c_X7_left {l : Launch} {D : va_G} {w : gw} {M : Nat → Nat → Int32} {J : Nat → Nat → Int64} {R : Nat → Nat → Option Nat} (hw : w.1 = 166) (hR : LayC R) {k : Int32} : Cf l yX7_left wsX7_left ({ frames := 1, cells := 0, slots := 0, locals := 20 } : Room) D w [.ref (w.2.1 0), .int k] M J R (some (.int (if M 0 10 = 0 then 0 else if isCe k = 0 then 0 else M 21 k.toNatClampNeg))) M J R := by
  refine Cg.of (own := RX7) (cc := cX7_left) (maxL := 2) (ret := (some .int)) 0 (by decide) rfl rfl (Nat.le_of_ble_eq_true rfl) (fun X C hts V Rr => ?_)
  have F7 : FW X 7 := fun q h => hts q (List.mem_cons_of_mem _ (List.mem_append_left _ (List.mem_append_right _ h)))
  have F0 : FW X 0 := fun q h => hts q (List.mem_cons_of_mem _ (List.mem_append_right _ h))
  show Gj X 0 0 w M J R 0 [some (.ref (w.2.1 0)), some (.int k)] []
  refine g_aload_n C dX7_left_0 rfl ?_
  refine g_geti C F7 (by rw [hw]; decide) rfl (by decide) 10 (by decide) rfl (hts (.fieldLink RX7 66 "FallBench" "hasRun" "Z") (by decide +kernel)) rfl rfl dX7_left_1 ?_
  refine g_if_eq (tgt := 26) C dX7_left_4 (by decide) (fun c4 => ?_) (fun c4 => ?_)
  · refine g_iconst (v := 0) C dX7_left_26 (by decide) ?_
    exact g_iret C Rr ⟨rfl, ⟨by simp only [if_pos c4], rfl⟩⟩ dX7_left_27
  · refine g_iload_n C dX7_left_7 rfl ?_
    refine g_callSf C hts V (gX7_left_X7_isCell) rfl hdX7_isCell (by decide) c_X7_isCell rfl rfl (Nat.le_of_ble_eq_true rfl) dX7_left_8 ?_
    refine g_if_eq (tgt := 26) C dX7_left_11 (by decide) (fun c11 => ?_) (fun c11 => ?_)
    · refine g_iconst (v := 0) C dX7_left_26 (by decide) ?_
      exact g_iret C Rr ⟨rfl, ⟨by simp only [if_neg c4, if_pos c11], rfl⟩⟩ dX7_left_27
    · refine g_aload_n C dX7_left_14 rfl ?_
      refine g_getr (j := 20) C F7 (by rw [hw]; decide) rfl (by decide) 4 (by decide) rfl (hts (.fieldLink RX7 38 "FallBench" "latest" "LFallBench$Machine;") (by decide +kernel)) rfl (hR (0, 4, 20) (by decide)) dX7_left_15 ?_
      refine g_getr (j := 21) C F0 (by rw [hw]; decide) rfl (by decide) 0 (by decide) rfl (hts (.fieldLink RX7 162 "FallBench$Machine" "values" "[I") (by decide +kernel)) rfl (hR (20, 0, 21) (by decide)) dX7_left_18 ?_
      refine g_iload_n C dX7_left_21 rfl ?_
      refine g_iald C (by rw [hw]; decide) rfl (ce_in c11) rfl dX7_left_22 ?_
      refine g_goto (tgt := 27) C dX7_left_23 (by decide) ?_
      exact g_iret C Rr ⟨rfl, ⟨by simp only [if_neg c4, if_neg c11], rfl⟩⟩ dX7_left_27

set_option maxHeartbeats 4000000 in
set_option maxRecDepth 100000 in
theorem c_X7_leftOf {l : Launch} {D : va_G} {w : gw} {M : Nat → Nat → Int32} {J : Nat → Nat → Int64} {R : Nat → Nat → Option Nat} (hw : w.1 = 166) (hR : LayC R) {k x : Int32} : Cf l yX7_leftOf wsX7_leftOf ({ frames := 1, cells := 0, slots := 0, locals := 20 } : Room) D w [.ref (w.2.1 0), .int k, .int x] M J R (some (.int (if x = 0 then (if M 0 10 = 0 then -1 else if isCe k = 0 then -1 else M 22 k.toNatClampNeg) else if x = 1 then (if M 0 10 = 0 then 0 else if isCe k = 0 then 0 else M 23 k.toNatClampNeg) else -1))) M J R := by
  refine Cg.of (own := RX7) (cc := cX7_leftOf) (maxL := 4) (ret := (some .int)) 1 (by decide) rfl rfl (Nat.le_of_ble_eq_true rfl) (fun X C hts V Rr => ?_)
  have F7 : FW X 7 := fun q h => hts q (List.mem_cons_of_mem _ (List.mem_append_left _ (List.mem_append_right _ h)))
  have F0 : FW X 0 := fun q h => hts q (List.mem_cons_of_mem _ (List.mem_append_right _ h))
  show Gj X 0 0 w M J R 0 [some (.ref (w.2.1 0)), some (.int k), some (.int x), none] []
  refine g_aload_n C dX7_leftOf_0 rfl ?_
  refine g_geti C F7 (by rw [hw]; decide) rfl (by decide) 10 (by decide) rfl (hts (.fieldLink RX7 66 "FallBench" "hasRun" "Z") (by decide +kernel)) rfl rfl dX7_leftOf_1 ?_
  refine g_if_eq (tgt := 18) C dX7_leftOf_4 (by decide) (fun c4 => ?_) (fun c4 => ?_)
  · refine g_iconst (v := 0) C dX7_leftOf_18 (by decide) ?_
    refine g_istore_n C V.2.1 dX7_leftOf_19 (by decide) rfl ?_
    refine g_iload_n C dX7_leftOf_20 rfl ?_
    by_cases s21_0 : x = 0
    · refine g_lookup (off := 27) (tgt := 48) C dX7_leftOf_21 rfl (by first | (rw [s21_0]; done) | (rw [s21_0]; rfl)) (by decide) ?_
      refine g_iload_n C dX7_leftOf_48 rfl ?_
      refine g_if_eq (tgt := 64) C dX7_leftOf_49 (by decide) (fun c49 => ?_) (fun c49 => absurd c49 (by decide))
      refine g_iconst (v := (-1)) C dX7_leftOf_64 (by decide) ?_
      exact g_iret C Rr ⟨rfl, ⟨by simp only [if_pos c4, if_pos s21_0], rfl⟩⟩ dX7_leftOf_65
    by_cases s21_1 : x = 1
    · refine g_lookup (off := 45) (tgt := 66) C dX7_leftOf_21 rfl (by first | (rw [s21_1]; done) | (rw [s21_1]; rfl)) (by decide) ?_
      refine g_iload_n C dX7_leftOf_66 rfl ?_
      refine g_if_eq (tgt := 82) C dX7_leftOf_67 (by decide) (fun c67 => ?_) (fun c67 => absurd c67 (by decide))
      refine g_iconst (v := 0) C dX7_leftOf_82 (by decide) ?_
      exact g_iret C Rr ⟨rfl, ⟨by simp only [if_pos c4, if_neg s21_0, if_pos s21_1], rfl⟩⟩ dX7_leftOf_83
    refine g_lookup (off := 63) (tgt := 84) C dX7_leftOf_21 rfl (by first | (rw [lv_osw s21_0 (by decide), lv_osw s21_1 (by decide)]; done) | (rw [lv_osw s21_0 (by decide), lv_osw s21_1 (by decide)]; rfl)) (by decide) ?_
    refine g_iconst (v := (-1)) C dX7_leftOf_84 (by decide) ?_
    exact g_iret C Rr ⟨rfl, ⟨by simp only [if_pos c4, if_neg s21_0, if_neg s21_1], rfl⟩⟩ dX7_leftOf_85
  · refine g_iload_n C dX7_leftOf_7 rfl ?_
    refine g_callSf C hts V (gX7_leftOf_X7_isCell) rfl hdX7_isCell (by decide) c_X7_isCell rfl rfl (Nat.le_of_ble_eq_true rfl) dX7_leftOf_8 ?_
    refine g_if_eq (tgt := 18) C dX7_leftOf_11 (by decide) (fun c11 => ?_) (fun c11 => ?_)
    · refine g_iconst (v := 0) C dX7_leftOf_18 (by decide) ?_
      refine g_istore_n C V.2.1 dX7_leftOf_19 (by decide) rfl ?_
      refine g_iload_n C dX7_leftOf_20 rfl ?_
      by_cases s21_0 : x = 0
      · refine g_lookup (off := 27) (tgt := 48) C dX7_leftOf_21 rfl (by first | (rw [s21_0]; done) | (rw [s21_0]; rfl)) (by decide) ?_
        refine g_iload_n C dX7_leftOf_48 rfl ?_
        refine g_if_eq (tgt := 64) C dX7_leftOf_49 (by decide) (fun c49 => ?_) (fun c49 => absurd c49 (by decide))
        refine g_iconst (v := (-1)) C dX7_leftOf_64 (by decide) ?_
        exact g_iret C Rr ⟨rfl, ⟨by simp only [if_neg c4, if_pos c11, if_pos s21_0], rfl⟩⟩ dX7_leftOf_65
      by_cases s21_1 : x = 1
      · refine g_lookup (off := 45) (tgt := 66) C dX7_leftOf_21 rfl (by first | (rw [s21_1]; done) | (rw [s21_1]; rfl)) (by decide) ?_
        refine g_iload_n C dX7_leftOf_66 rfl ?_
        refine g_if_eq (tgt := 82) C dX7_leftOf_67 (by decide) (fun c67 => ?_) (fun c67 => absurd c67 (by decide))
        refine g_iconst (v := 0) C dX7_leftOf_82 (by decide) ?_
        exact g_iret C Rr ⟨rfl, ⟨by simp only [if_neg c4, if_pos c11, if_neg s21_0, if_pos s21_1], rfl⟩⟩ dX7_leftOf_83
      refine g_lookup (off := 63) (tgt := 84) C dX7_leftOf_21 rfl (by first | (rw [lv_osw s21_0 (by decide), lv_osw s21_1 (by decide)]; done) | (rw [lv_osw s21_0 (by decide), lv_osw s21_1 (by decide)]; rfl)) (by decide) ?_
      refine g_iconst (v := (-1)) C dX7_leftOf_84 (by decide) ?_
      exact g_iret C Rr ⟨rfl, ⟨by simp only [if_neg c4, if_pos c11, if_neg s21_0, if_neg s21_1], rfl⟩⟩ dX7_leftOf_85
    · refine g_iconst (v := 1) C dX7_leftOf_14 (by decide) ?_
      refine g_goto (tgt := 19) C dX7_leftOf_15 (by decide) ?_
      refine g_istore_n C V.2.1 dX7_leftOf_19 (by decide) rfl ?_
      refine g_iload_n C dX7_leftOf_20 rfl ?_
      by_cases s21_0 : x = 0
      · refine g_lookup (off := 27) (tgt := 48) C dX7_leftOf_21 rfl (by first | (rw [s21_0]; done) | (rw [s21_0]; rfl)) (by decide) ?_
        refine g_iload_n C dX7_leftOf_48 rfl ?_
        refine g_if_eq (tgt := 64) C dX7_leftOf_49 (by decide) (fun c49 => absurd c49 (by decide)) (fun c49 => ?_)
        refine g_aload_n C dX7_leftOf_52 rfl ?_
        refine g_getr (j := 20) C F7 (by rw [hw]; decide) rfl (by decide) 4 (by decide) rfl (hts (.fieldLink RX7 38 "FallBench" "latest" "LFallBench$Machine;") (by decide +kernel)) rfl (hR (0, 4, 20) (by decide)) dX7_leftOf_53 ?_
        refine g_getr (j := 22) C F0 (by rw [hw]; decide) rfl (by decide) 1 (by decide) rfl (hts (.fieldLink RX7 165 "FallBench$Machine" "makers" "[I") (by decide +kernel)) rfl (hR (20, 1, 22) (by decide)) dX7_leftOf_56 ?_
        refine g_iload_n C dX7_leftOf_59 rfl ?_
        refine g_iald C (by rw [hw]; decide) rfl (ce_in c11) rfl dX7_leftOf_60 ?_
        refine g_goto (tgt := 65) C dX7_leftOf_61 (by decide) ?_
        exact g_iret C Rr ⟨rfl, ⟨by simp only [if_neg c4, if_neg c11, if_pos s21_0], rfl⟩⟩ dX7_leftOf_65
      by_cases s21_1 : x = 1
      · refine g_lookup (off := 45) (tgt := 66) C dX7_leftOf_21 rfl (by first | (rw [s21_1]; done) | (rw [s21_1]; rfl)) (by decide) ?_
        refine g_iload_n C dX7_leftOf_66 rfl ?_
        refine g_if_eq (tgt := 82) C dX7_leftOf_67 (by decide) (fun c67 => absurd c67 (by decide)) (fun c67 => ?_)
        refine g_aload_n C dX7_leftOf_70 rfl ?_
        refine g_getr (j := 20) C F7 (by rw [hw]; decide) rfl (by decide) 4 (by decide) rfl (hts (.fieldLink RX7 38 "FallBench" "latest" "LFallBench$Machine;") (by decide +kernel)) rfl (hR (0, 4, 20) (by decide)) dX7_leftOf_71 ?_
        refine g_getr (j := 23) C F0 (by rw [hw]; decide) rfl (by decide) 2 (by decide) rfl (hts (.fieldLink RX7 168 "FallBench$Machine" "bytes" "[I") (by decide +kernel)) rfl (hR (20, 2, 23) (by decide)) dX7_leftOf_74 ?_
        refine g_iload_n C dX7_leftOf_77 rfl ?_
        refine g_iald C (by rw [hw]; decide) rfl (ce_in c11) rfl dX7_leftOf_78 ?_
        refine g_goto (tgt := 83) C dX7_leftOf_79 (by decide) ?_
        exact g_iret C Rr ⟨rfl, ⟨by simp only [if_neg c4, if_neg c11, if_neg s21_0, if_pos s21_1], rfl⟩⟩ dX7_leftOf_83
      refine g_lookup (off := 63) (tgt := 84) C dX7_leftOf_21 rfl (by first | (rw [lv_osw s21_0 (by decide), lv_osw s21_1 (by decide)]; done) | (rw [lv_osw s21_0 (by decide), lv_osw s21_1 (by decide)]; rfl)) (by decide) ?_
      refine g_iconst (v := (-1)) C dX7_leftOf_84 (by decide) ?_
      exact g_iret C Rr ⟨rfl, ⟨by simp only [if_neg c4, if_neg c11, if_neg s21_0, if_neg s21_1], rfl⟩⟩ dX7_leftOf_85

set_option maxHeartbeats 4000000 in
set_option maxRecDepth 100000 in
theorem c_X8_told {l : Launch} {D : va_G} {w : gw} {M : Nat → Nat → Int32} {J : Nat → Nat → Int64} {R : Nat → Nat → Option Nat} (hw : w.1 = 166) (hR : LayM R) {k : Int32} : Cf l yX8_told wsX8_told ({ frames := 0, cells := 0, slots := 0, locals := 0 } : Room) D w [.ref (w.2.1 134), .int k] M J R (some (.int (if M 134 44 = 0 then 0 else if k < 0 then 0 else if M 157 5 ≤ k then 0 else if k < 40 then M 156 k.toNatClampNeg else 0))) M J R := by
  refine Cg.of (own := RX8) (cc := cX8_told) (maxL := 2) (ret := (some .int)) 0 (by decide) rfl rfl (Nat.le_of_ble_eq_true rfl) (fun X C hts V Rr => ?_)
  have F8 : FW X 8 := fun q h => hts q (List.mem_cons_of_mem _ (List.mem_append_right _ h))
  show Gj X 0 0 w M J R 0 [some (.ref (w.2.1 134)), some (.int k)] []
  refine g_aload_n C dX8_told_0 rfl ?_
  refine g_geti C F8 (by rw [hw]; decide) rfl (by decide) 44 (by decide) rfl (hts (.fieldLink RX8 288 "FallBenchModel" "hasRun" "Z") (by decide +kernel)) rfl rfl dX8_told_1 ?_
  refine g_if_eq (tgt := 27) C dX8_told_4 (by decide) (fun c4 => ?_) (fun c4 => ?_)
  · refine g_iconst (v := 0) C dX8_told_27 (by decide) ?_
    refine g_goto (tgt := 37) C dX8_told_28 (by decide) ?_
    exact g_iret C Rr ⟨rfl, ⟨by simp only [if_pos c4], rfl⟩⟩ dX8_told_37
  · refine g_iload_n C dX8_told_7 rfl ?_
    refine g_if_lt (tgt := 27) C dX8_told_8 (by decide) (fun c8 => ?_) (fun c8 => ?_)
    · refine g_iconst (v := 0) C dX8_told_27 (by decide) ?_
      refine g_goto (tgt := 37) C dX8_told_28 (by decide) ?_
      exact g_iret C Rr ⟨rfl, ⟨by simp only [if_neg c4, if_pos c8], rfl⟩⟩ dX8_told_37
    · refine g_iload_n C dX8_told_11 rfl ?_
      refine g_aload_n C dX8_told_12 rfl ?_
      refine g_getr (j := 157) C F8 (by rw [hw]; decide) rfl (by decide) 43 (by decide) rfl (hts (.fieldLink RX8 82 "FallBenchModel" "look" "[I") (by decide +kernel)) rfl (hR (43, 157) (by decide)) dX8_told_13 ?_
      refine g_iconst (v := 5) C dX8_told_16 (by decide) ?_
      refine g_iald (v := M 157 5) C (by rw [hw]; decide) rfl (vp_in_nI (n := 5) (N := 7) (by decide) (by decide)) rfl dX8_told_17 ?_
      refine g_icmp_ge (tgt := 27) C dX8_told_18 (by decide) (fun c18 => ?_) (fun c18 => ?_)
      · refine g_iconst (v := 0) C dX8_told_27 (by decide) ?_
        refine g_goto (tgt := 37) C dX8_told_28 (by decide) ?_
        exact g_iret C Rr ⟨rfl, ⟨by simp only [if_neg c4, if_neg c8, if_pos c18], rfl⟩⟩ dX8_told_37
      · refine g_iload_n C dX8_told_21 rfl ?_
        refine g_bipush (v := 40) C dX8_told_22 (by decide) ?_
        refine g_icmp_lt (tgt := 31) C dX8_told_24 (by decide) (fun c24 => ?_) (fun c24 => ?_)
        · refine g_aload_n C dX8_told_31 rfl ?_
          refine g_getr (j := 156) C F8 (by rw [hw]; decide) rfl (by decide) 42 (by decide) rfl (hts (.fieldLink RX8 79 "FallBenchModel" "lookOuts" "[I") (by decide +kernel)) rfl (hR (42, 156) (by decide)) dX8_told_32 ?_
          refine g_iload_n C dX8_told_35 rfl ?_
          refine g_iald C (by rw [hw]; decide) rfl (inOf (n := 40) (by decide) c8 (nlt_nle c24)) rfl dX8_told_36 ?_
          exact g_iret C Rr ⟨rfl, ⟨by simp only [if_neg c4, if_neg c8, if_neg c18, if_pos c24], rfl⟩⟩ dX8_told_37
        · refine g_iconst (v := 0) C dX8_told_27 (by decide) ?_
          refine g_goto (tgt := 37) C dX8_told_28 (by decide) ?_
          exact g_iret C Rr ⟨rfl, ⟨by simp only [if_neg c4, if_neg c8, if_neg c18, if_neg c24], rfl⟩⟩ dX8_told_37

set_option maxHeartbeats 4000000 in
set_option maxRecDepth 100000 in
theorem c_X8_leftOf {l : Launch} {D : va_G} {w : gw} {M : Nat → Nat → Int32} {J : Nat → Nat → Int64} {R : Nat → Nat → Option Nat} (hw : w.1 = 166) (hR : LayM R) {k x : Int32} : Cf l yX8_leftOf wsX8_leftOf ({ frames := 0, cells := 0, slots := 0, locals := 0 } : Room) D w [.ref (w.2.1 134), .int k, .int x] M J R (some (.int (if x = 0 then (if M 134 44 = 0 then -1 else if k < 0 then -1 else if 40 ≤ k then -1 else M 154 k.toNatClampNeg) else if x = 1 then (if M 134 44 = 0 then 0 else if k < 0 then 0 else if 40 ≤ k then 0 else M 155 k.toNatClampNeg) else -1))) M J R := by
  refine Cg.of (own := RX8) (cc := cX8_leftOf) (maxL := 4) (ret := (some .int)) 1 (by decide) rfl rfl (Nat.le_of_ble_eq_true rfl) (fun X C hts V Rr => ?_)
  have F8 : FW X 8 := fun q h => hts q (List.mem_cons_of_mem _ (List.mem_append_right _ h))
  show Gj X 0 0 w M J R 0 [some (.ref (w.2.1 134)), some (.int k), some (.int x), none] []
  refine g_aload_n C dX8_leftOf_0 rfl ?_
  refine g_geti C F8 (by rw [hw]; decide) rfl (by decide) 44 (by decide) rfl (hts (.fieldLink RX8 288 "FallBenchModel" "hasRun" "Z") (by decide +kernel)) rfl rfl dX8_leftOf_1 ?_
  refine g_if_eq (tgt := 21) C dX8_leftOf_4 (by decide) (fun c4 => ?_) (fun c4 => ?_)
  · refine g_iconst (v := 0) C dX8_leftOf_21 (by decide) ?_
    refine g_istore_n C V.2.1 dX8_leftOf_22 (by decide) rfl ?_
    refine g_iload_n C dX8_leftOf_23 rfl ?_
    refine g_if_ne (tgt := 44) C dX8_leftOf_24 (by decide) (fun c24 => ?_) (fun c24 => ?_)
    · refine g_iload_n C dX8_leftOf_44 rfl ?_
      refine g_iconst (v := 1) C dX8_leftOf_45 (by decide) ?_
      refine g_icmp_ne (tgt := 66) C dX8_leftOf_46 (by decide) (fun c46 => ?_) (fun c46 => ?_)
      · refine g_iconst (v := (-1)) C dX8_leftOf_66 (by decide) ?_
        exact g_iret C Rr ⟨rfl, ⟨by simp only [if_pos c4, if_neg c24, if_neg c46], rfl⟩⟩ dX8_leftOf_67
      · refine g_iload_n C dX8_leftOf_49 rfl ?_
        refine g_if_eq (tgt := 62) C dX8_leftOf_50 (by decide) (fun c50 => ?_) (fun c50 => absurd c50 (by decide))
        refine g_iconst (v := 0) C dX8_leftOf_62 (by decide) ?_
        refine g_goto (tgt := 67) C dX8_leftOf_63 (by decide) ?_
        exact g_iret C Rr ⟨rfl, ⟨by simp only [if_pos c4, if_neg c24, if_pos c46], rfl⟩⟩ dX8_leftOf_67
    · refine g_iload_n C dX8_leftOf_27 rfl ?_
      refine g_if_eq (tgt := 40) C dX8_leftOf_28 (by decide) (fun c28 => ?_) (fun c28 => absurd c28 (by decide))
      refine g_iconst (v := (-1)) C dX8_leftOf_40 (by decide) ?_
      refine g_goto (tgt := 67) C dX8_leftOf_41 (by decide) ?_
      exact g_iret C Rr ⟨rfl, ⟨by simp only [if_pos c4, if_pos c24], rfl⟩⟩ dX8_leftOf_67
  · refine g_iload_n C dX8_leftOf_7 rfl ?_
    refine g_if_lt (tgt := 21) C dX8_leftOf_8 (by decide) (fun c8 => ?_) (fun c8 => ?_)
    · refine g_iconst (v := 0) C dX8_leftOf_21 (by decide) ?_
      refine g_istore_n C V.2.1 dX8_leftOf_22 (by decide) rfl ?_
      refine g_iload_n C dX8_leftOf_23 rfl ?_
      refine g_if_ne (tgt := 44) C dX8_leftOf_24 (by decide) (fun c24 => ?_) (fun c24 => ?_)
      · refine g_iload_n C dX8_leftOf_44 rfl ?_
        refine g_iconst (v := 1) C dX8_leftOf_45 (by decide) ?_
        refine g_icmp_ne (tgt := 66) C dX8_leftOf_46 (by decide) (fun c46 => ?_) (fun c46 => ?_)
        · refine g_iconst (v := (-1)) C dX8_leftOf_66 (by decide) ?_
          exact g_iret C Rr ⟨rfl, ⟨by simp only [if_neg c4, if_pos c8, if_neg c24, if_neg c46], rfl⟩⟩ dX8_leftOf_67
        · refine g_iload_n C dX8_leftOf_49 rfl ?_
          refine g_if_eq (tgt := 62) C dX8_leftOf_50 (by decide) (fun c50 => ?_) (fun c50 => absurd c50 (by decide))
          refine g_iconst (v := 0) C dX8_leftOf_62 (by decide) ?_
          refine g_goto (tgt := 67) C dX8_leftOf_63 (by decide) ?_
          exact g_iret C Rr ⟨rfl, ⟨by simp only [if_neg c4, if_pos c8, if_neg c24, if_pos c46], rfl⟩⟩ dX8_leftOf_67
      · refine g_iload_n C dX8_leftOf_27 rfl ?_
        refine g_if_eq (tgt := 40) C dX8_leftOf_28 (by decide) (fun c28 => ?_) (fun c28 => absurd c28 (by decide))
        refine g_iconst (v := (-1)) C dX8_leftOf_40 (by decide) ?_
        refine g_goto (tgt := 67) C dX8_leftOf_41 (by decide) ?_
        exact g_iret C Rr ⟨rfl, ⟨by simp only [if_neg c4, if_pos c8, if_pos c24], rfl⟩⟩ dX8_leftOf_67
    · refine g_iload_n C dX8_leftOf_11 rfl ?_
      refine g_bipush (v := 40) C dX8_leftOf_12 (by decide) ?_
      refine g_icmp_ge (tgt := 21) C dX8_leftOf_14 (by decide) (fun c14 => ?_) (fun c14 => ?_)
      · refine g_iconst (v := 0) C dX8_leftOf_21 (by decide) ?_
        refine g_istore_n C V.2.1 dX8_leftOf_22 (by decide) rfl ?_
        refine g_iload_n C dX8_leftOf_23 rfl ?_
        refine g_if_ne (tgt := 44) C dX8_leftOf_24 (by decide) (fun c24 => ?_) (fun c24 => ?_)
        · refine g_iload_n C dX8_leftOf_44 rfl ?_
          refine g_iconst (v := 1) C dX8_leftOf_45 (by decide) ?_
          refine g_icmp_ne (tgt := 66) C dX8_leftOf_46 (by decide) (fun c46 => ?_) (fun c46 => ?_)
          · refine g_iconst (v := (-1)) C dX8_leftOf_66 (by decide) ?_
            exact g_iret C Rr ⟨rfl, ⟨by simp only [if_neg c4, if_neg c8, if_pos c14, if_neg c24, if_neg c46], rfl⟩⟩ dX8_leftOf_67
          · refine g_iload_n C dX8_leftOf_49 rfl ?_
            refine g_if_eq (tgt := 62) C dX8_leftOf_50 (by decide) (fun c50 => ?_) (fun c50 => absurd c50 (by decide))
            refine g_iconst (v := 0) C dX8_leftOf_62 (by decide) ?_
            refine g_goto (tgt := 67) C dX8_leftOf_63 (by decide) ?_
            exact g_iret C Rr ⟨rfl, ⟨by simp only [if_neg c4, if_neg c8, if_pos c14, if_neg c24, if_pos c46], rfl⟩⟩ dX8_leftOf_67
        · refine g_iload_n C dX8_leftOf_27 rfl ?_
          refine g_if_eq (tgt := 40) C dX8_leftOf_28 (by decide) (fun c28 => ?_) (fun c28 => absurd c28 (by decide))
          refine g_iconst (v := (-1)) C dX8_leftOf_40 (by decide) ?_
          refine g_goto (tgt := 67) C dX8_leftOf_41 (by decide) ?_
          exact g_iret C Rr ⟨rfl, ⟨by simp only [if_neg c4, if_neg c8, if_pos c14, if_pos c24], rfl⟩⟩ dX8_leftOf_67
      · refine g_iconst (v := 1) C dX8_leftOf_17 (by decide) ?_
        refine g_goto (tgt := 22) C dX8_leftOf_18 (by decide) ?_
        refine g_istore_n C V.2.1 dX8_leftOf_22 (by decide) rfl ?_
        refine g_iload_n C dX8_leftOf_23 rfl ?_
        refine g_if_ne (tgt := 44) C dX8_leftOf_24 (by decide) (fun c24 => ?_) (fun c24 => ?_)
        · refine g_iload_n C dX8_leftOf_44 rfl ?_
          refine g_iconst (v := 1) C dX8_leftOf_45 (by decide) ?_
          refine g_icmp_ne (tgt := 66) C dX8_leftOf_46 (by decide) (fun c46 => ?_) (fun c46 => ?_)
          · refine g_iconst (v := (-1)) C dX8_leftOf_66 (by decide) ?_
            exact g_iret C Rr ⟨rfl, ⟨by simp only [if_neg c4, if_neg c8, if_neg c14, if_neg c24, if_neg c46], rfl⟩⟩ dX8_leftOf_67
          · refine g_iload_n C dX8_leftOf_49 rfl ?_
            refine g_if_eq (tgt := 62) C dX8_leftOf_50 (by decide) (fun c50 => absurd c50 (by decide)) (fun c50 => ?_)
            refine g_aload_n C dX8_leftOf_53 rfl ?_
            refine g_getr (j := 155) C F8 (by rw [hw]; decide) rfl (by decide) 41 (by decide) rfl (hts (.fieldLink RX8 76 "FallBenchModel" "lookCame" "[I") (by decide +kernel)) rfl (hR (41, 155) (by decide)) dX8_leftOf_54 ?_
            refine g_iload_n C dX8_leftOf_57 rfl ?_
            refine g_iald C (by rw [hw]; decide) rfl (inOf (n := 40) (by decide) c8 c14) rfl dX8_leftOf_58 ?_
            refine g_goto (tgt := 67) C dX8_leftOf_59 (by decide) ?_
            exact g_iret C Rr ⟨rfl, ⟨by simp only [if_neg c4, if_neg c8, if_neg c14, if_neg c24, if_pos c46], rfl⟩⟩ dX8_leftOf_67
        · refine g_iload_n C dX8_leftOf_27 rfl ?_
          refine g_if_eq (tgt := 40) C dX8_leftOf_28 (by decide) (fun c28 => absurd c28 (by decide)) (fun c28 => ?_)
          refine g_aload_n C dX8_leftOf_31 rfl ?_
          refine g_getr (j := 154) C F8 (by rw [hw]; decide) rfl (by decide) 40 (by decide) rfl (hts (.fieldLink RX8 73 "FallBenchModel" "lookMaker" "[I") (by decide +kernel)) rfl (hR (40, 154) (by decide)) dX8_leftOf_32 ?_
          refine g_iload_n C dX8_leftOf_35 rfl ?_
          refine g_iald C (by rw [hw]; decide) rfl (inOf (n := 40) (by decide) c8 c14) rfl dX8_leftOf_36 ?_
          refine g_goto (tgt := 67) C dX8_leftOf_37 (by decide) ?_
          exact g_iret C Rr ⟨rfl, ⟨by simp only [if_neg c4, if_neg c8, if_neg c14, if_pos c24], rfl⟩⟩ dX8_leftOf_67

set_option maxHeartbeats 4000000 in
set_option maxRecDepth 100000 in
theorem c_X7_smallByte {l : Launch} {D : va_G} {w : gw} {M : Nat → Nat → Int32} {J : Nat → Nat → Int64} {R : Nat → Nat → Option Nat} (hw : w.1 = 166) (hR : LayC R) {k z : Int32} : Cf l yX7_smallByte wsX7_smallByte ({ frames := 1, cells := 0, slots := 0, locals := 21 } : Room) D w [.ref (w.2.1 0), .int k, .int z] M J R (some (.int (if z = 0 then b_at M 43 k else b_at M 45 k))) M J R := by
  refine Cg.of (own := RX7) (cc := cX7_smallByte) (maxL := 3) (ret := (some .int)) 0 (by decide) rfl rfl (Nat.le_of_ble_eq_true rfl) (fun X C hts V Rr => ?_)
  have F7 : FW X 7 := fun q h => hts q (List.mem_cons_of_mem _ (List.mem_append_left _ (List.mem_append_left _ (List.mem_append_right _ h))))
  have F6 : FW X 6 := fun q h => hts q (List.mem_cons_of_mem _ (List.mem_append_left _ (List.mem_append_right _ h)))
  have F3 : FW X 3 := fun q h => hts q (List.mem_cons_of_mem _ (List.mem_append_right _ h))
  show Gj X 0 0 w M J R 0 [some (.ref (w.2.1 0)), some (.int k), some (.int z)] []
  refine g_iload_n C dX7_smallByte_0 rfl ?_
  refine g_if_eq (tgt := 18) C dX7_smallByte_1 (by decide) (fun c1 => ?_) (fun c1 => ?_)
  · refine g_aload_n C dX7_smallByte_18 rfl ?_
    refine g_getr (j := 42) C F7 (by rw [hw]; decide) rfl (by decide) 8 (by decide) rfl (hts (.fieldLink RX7 58 "FallBench" "trier" "LFallBench$Trier;") (by decide +kernel)) rfl (hR (0, 8, 42) (by decide)) dX7_smallByte_19 ?_
    refine g_getr (j := 43) C F6 (by rw [hw]; decide) rfl (by decide) 0 (by decide) rfl (hts (.fieldLink RX7 195 "FallBench$Trier" "smallest" "LFallBench$Row;") (by decide +kernel)) rfl (hR (42, 0, 43) (by decide)) dX7_smallByte_22 ?_
    refine g_iload_n C dX7_smallByte_25 rfl ?_
    refine g_callVf C hts V (i := 43) (gX7_smallByte_X3_byteAt) rfl hdX3_byteAt (by decide) (c_X3_byteAt (row_43 hw hR)) (by rw [hw]; decide) rfl (by decide) rfl rfl (Nat.le_of_ble_eq_true rfl) dX7_smallByte_26 ?_
    exact g_iret C Rr ⟨rfl, ⟨by simp only [if_pos c1], rfl⟩⟩ dX7_smallByte_29
  · refine g_aload_n C dX7_smallByte_4 rfl ?_
    refine g_getr (j := 42) C F7 (by rw [hw]; decide) rfl (by decide) 8 (by decide) rfl (hts (.fieldLink RX7 58 "FallBench" "trier" "LFallBench$Trier;") (by decide +kernel)) rfl (hR (0, 8, 42) (by decide)) dX7_smallByte_5 ?_
    refine g_getr (j := 45) C F6 (by rw [hw]; decide) rfl (by decide) 1 (by decide) rfl (hts (.fieldLink RX7 198 "FallBench$Trier" "lowest" "LFallBench$Row;") (by decide +kernel)) rfl (hR (42, 1, 45) (by decide)) dX7_smallByte_8 ?_
    refine g_iload_n C dX7_smallByte_11 rfl ?_
    refine g_callVf C hts V (i := 45) (gX7_smallByte_X3_byteAt) rfl hdX3_byteAt (by decide) (c_X3_byteAt (row_45 hw hR)) (by rw [hw]; decide) rfl (by decide) rfl rfl (Nat.le_of_ble_eq_true rfl) dX7_smallByte_12 ?_
    refine g_goto (tgt := 29) C dX7_smallByte_15 (by decide) ?_
    exact g_iret C Rr ⟨rfl, ⟨by simp only [if_neg c1], rfl⟩⟩ dX7_smallByte_29

set_option maxHeartbeats 4000000 in
set_option maxRecDepth 100000 in
theorem c_X8_smallByte {l : Launch} {D : va_G} {w : gw} {M : Nat → Nat → Int32} {J : Nat → Nat → Int64} {R : Nat → Nat → Option Nat} (hw : w.1 = 166) (hR : LayM R) {k z : Int32} (hs : ¬ 24 < M 134 53) : Cf l yX8_smallByte wsX8_smallByte ({ frames := 0, cells := 0, slots := 0, locals := 0 } : Room) D w [.ref (w.2.1 134), .int k, .int z] M J R (some (.int (if k < 0 then -1 else if k < M 134 53 then (if z = 0 then M 163 k.toNatClampNeg else M 164 k.toNatClampNeg) else -1))) M J R := by
  refine Cg.of (own := RX8) (cc := cX8_smallByte) (maxL := 3) (ret := (some .int)) 0 (by decide) rfl rfl (Nat.le_of_ble_eq_true rfl) (fun X C hts V Rr => ?_)
  have F8 : FW X 8 := fun q h => hts q (List.mem_cons_of_mem _ (List.mem_append_right _ h))
  show Gj X 0 0 w M J R 0 [some (.ref (w.2.1 134)), some (.int k), some (.int z)] []
  refine g_iload_n C dX8_smallByte_0 rfl ?_
  refine g_if_lt (tgt := 12) C dX8_smallByte_1 (by decide) (fun c1 => ?_) (fun c1 => ?_)
  · refine g_iconst (v := (-1)) C dX8_smallByte_12 (by decide) ?_
    refine g_goto (tgt := 35) C dX8_smallByte_13 (by decide) ?_
    exact g_iret C Rr ⟨rfl, ⟨by simp only [if_pos c1], rfl⟩⟩ dX8_smallByte_35
  · refine g_iload_n C dX8_smallByte_4 rfl ?_
    refine g_aload_n C dX8_smallByte_5 rfl ?_
    refine g_geti C F8 (by rw [hw]; decide) rfl (by decide) 53 (by decide) rfl (hts (.fieldLink RX8 106 "FallBenchModel" "smallMany" "I") (by decide +kernel)) rfl rfl dX8_smallByte_6 ?_
    refine g_icmp_lt (tgt := 16) C dX8_smallByte_9 (by decide) (fun c9 => ?_) (fun c9 => ?_)
    · refine g_iload_n C dX8_smallByte_16 rfl ?_
      refine g_if_eq (tgt := 29) C dX8_smallByte_17 (by decide) (fun c17 => ?_) (fun c17 => ?_)
      · refine g_aload_n C dX8_smallByte_29 rfl ?_
        refine g_getr (j := 163) C F8 (by rw [hw]; decide) rfl (by decide) 51 (by decide) rfl (hts (.fieldLink RX8 100 "FallBenchModel" "smallBytes" "[I") (by decide +kernel)) rfl (hR (51, 163) (by decide)) dX8_smallByte_30 ?_
        refine g_iload_n C dX8_smallByte_33 rfl ?_
        refine g_iald C (by rw [hw]; decide) rfl (inOf (n := 24) (by decide) c1 (fun q => hs (by rw [Int32.lt_iff_toInt_lt] at c9 ⊢; rw [Int32.le_iff_toInt_le] at q; have : (nI 24).toInt = (24 : Int32).toInt := rfl; omega))) rfl dX8_smallByte_34 ?_
        exact g_iret C Rr ⟨rfl, ⟨by simp only [if_neg c1, if_pos c9, if_pos c17], rfl⟩⟩ dX8_smallByte_35
      · refine g_aload_n C dX8_smallByte_20 rfl ?_
        refine g_getr (j := 164) C F8 (by rw [hw]; decide) rfl (by decide) 52 (by decide) rfl (hts (.fieldLink RX8 103 "FallBenchModel" "lowBytes" "[I") (by decide +kernel)) rfl (hR (52, 164) (by decide)) dX8_smallByte_21 ?_
        refine g_iload_n C dX8_smallByte_24 rfl ?_
        refine g_iald C (by rw [hw]; decide) rfl (inOf (n := 24) (by decide) c1 (fun q => hs (by rw [Int32.lt_iff_toInt_lt] at c9 ⊢; rw [Int32.le_iff_toInt_le] at q; have : (nI 24).toInt = (24 : Int32).toInt := rfl; omega))) rfl dX8_smallByte_25 ?_
        refine g_goto (tgt := 35) C dX8_smallByte_26 (by decide) ?_
        exact g_iret C Rr ⟨rfl, ⟨by simp only [if_neg c1, if_pos c9, if_neg c17], rfl⟩⟩ dX8_smallByte_35
    · refine g_iconst (v := (-1)) C dX8_smallByte_12 (by decide) ?_
      refine g_goto (tgt := 35) C dX8_smallByte_13 (by decide) ?_
      exact g_iret C Rr ⟨rfl, ⟨by simp only [if_neg c1, if_neg c9], rfl⟩⟩ dX8_smallByte_35

set_option maxHeartbeats 4000000 in
set_option maxRecDepth 100000 in
theorem c_X7_about {l : Launch} {D : va_G} {w : gw} {M : Nat → Nat → Int32} {J : Nat → Nat → Int64} {R : Nat → Nat → Option Nat} (hw : w.1 = 166) (hR : LayC R) {π : Nat → Nat} (hS : ∀ k, k < 3 → R 3 k = some (π k) ∧ isProg w R (π k)) {x : Int32} : Cf l yX7_about wsX7_about ({ frames := 0, cells := 0, slots := 0, locals := 0 } : Room) D w [.ref (w.2.1 0), .int x] M J R (some (.int (if x = 0 then M 0 9 else if x = 1 then M 1 1 else if x < 10 then -1 else if 13 ≤ x then -1 else M (π (x - 10).toNatClampNeg) 4))) M J R := by
  generalize hpe : π (x - 10).toNatClampNeg = p
  refine Cg.of (own := RX7) (cc := cX7_about) (maxL := 2) (ret := (some .int)) 0 (by decide) rfl rfl (Nat.le_of_ble_eq_true rfl) (fun X C hts V Rr => ?_)
  have F7 : FW X 7 := fun q h => hts q (List.mem_cons_of_mem _ (List.mem_append_left _ (List.mem_append_left _ (List.mem_append_right _ h))))
  have F3 : FW X 3 := fun q h => hts q (List.mem_cons_of_mem _ (List.mem_append_left _ (List.mem_append_right _ h)))
  have F2 : FW X 2 := fun q h => hts q (List.mem_cons_of_mem _ (List.mem_append_right _ h))
  show Gj X 0 0 w M J R 0 [some (.ref (w.2.1 0)), some (.int x)] []
  refine g_iload_n C dX7_about_0 rfl ?_
  refine g_if_ne (tgt := 9) C dX7_about_1 (by decide) (fun c1 => ?_) (fun c1 => ?_)
  · refine g_iload_n C dX7_about_9 rfl ?_
    refine g_iconst (v := 1) C dX7_about_10 (by decide) ?_
    refine g_icmp_ne (tgt := 22) C dX7_about_11 (by decide) (fun c11 => ?_) (fun c11 => ?_)
    · refine g_iload_n C dX7_about_22 rfl ?_
      refine g_bipush (v := 10) C dX7_about_23 (by decide) ?_
      refine g_icmp_lt (tgt := 47) C dX7_about_25 (by decide) (fun c25 => ?_) (fun c25 => ?_)
      · refine g_iconst (v := (-1)) C dX7_about_47 (by decide) ?_
        exact g_iret C Rr ⟨rfl, ⟨by simp only [if_neg c1, if_neg c11, if_pos c25], rfl⟩⟩ dX7_about_48
      · refine g_iload_n C dX7_about_28 rfl ?_
        refine g_bipush (v := 13) C dX7_about_29 (by decide) ?_
        refine g_icmp_ge (tgt := 47) C dX7_about_31 (by decide) (fun c31 => ?_) (fun c31 => ?_)
        · refine g_iconst (v := (-1)) C dX7_about_47 (by decide) ?_
          exact g_iret C Rr ⟨rfl, ⟨by simp only [if_neg c1, if_neg c11, if_neg c25, if_pos c31], rfl⟩⟩ dX7_about_48
        · refine g_aload_n C dX7_about_34 rfl ?_
          refine g_getr (j := 3) C F7 (by rw [hw]; decide) rfl (by decide) 1 (by decide) rfl (hts (.fieldLink RX7 20 "FallBench" "shelves" "[LFallBench$Program;") (by decide +kernel)) rfl (hR (0, 1, 3) (by decide)) dX7_about_35 ?_
          refine g_iload_n C dX7_about_38 rfl ?_
          refine g_bipush (v := 10) C dX7_about_39 (by decide) ?_
          refine g_isub C dX7_about_41 ?_
          have hp := hS _ (in_lt (ab_in c25 c31))
          rw [hpe] at hp
          obtain ⟨hp3, hp⟩ := hp
          obtain ⟨p_hi4, p_k, p_k1, p_k2, p_k3, p_k4, p_l1, p_l2, p_l3, p_l4, p_r0, p_r1, p_r2, p_r3⟩ := id hp
          have p_hi : p < w.1 := by omega
          have p_hi1 : p + 1 < w.1 := by omega
          have p_hi2 : p + 2 < w.1 := by omega
          have p_hi3 : p + 3 < w.1 := by omega
          refine g_aald (j := p) C (by rw [hw]; decide) (by decide) (ab_in c25 c31) hp3 dX7_about_42 ?_
          refine g_geti C F2 p_hi p_k (by decide) 4 (by decide) rfl (hts (.fieldLink RX7 92 "FallBench$Program" "count" "I") (by decide +kernel)) rfl rfl dX7_about_43 ?_
          exact g_iret C Rr ⟨rfl, ⟨by simp only [if_neg c1, if_neg c11, if_neg c25, if_neg c31], rfl⟩⟩ dX7_about_46
    · refine g_aload_n C dX7_about_14 rfl ?_
      refine g_getr (j := 1) C F7 (by rw [hw]; decide) rfl (by decide) 0 (by decide) rfl (hts (.fieldLink RX7 14 "FallBench" "tape" "LFallBench$Row;") (by decide +kernel)) rfl (hR (0, 0, 1) (by decide)) dX7_about_15 ?_
      refine g_geti C F3 (by rw [hw]; decide) rfl (by decide) 1 (by decide) rfl (hts (.fieldLink RX7 71 "FallBench$Row" "length" "I") (by decide +kernel)) rfl rfl dX7_about_18 ?_
      exact g_iret C Rr ⟨rfl, ⟨by simp only [if_neg c1, if_pos c11], rfl⟩⟩ dX7_about_21
  · refine g_aload_n C dX7_about_4 rfl ?_
    refine g_geti C F7 (by rw [hw]; decide) rfl (by decide) 9 (by decide) rfl (hts (.fieldLink RX7 62 "FallBench" "inputCount" "I") (by decide +kernel)) rfl rfl dX7_about_5 ?_
    exact g_iret C Rr ⟨rfl, ⟨by simp only [if_pos c1], rfl⟩⟩ dX7_about_8

set_option maxHeartbeats 4000000 in
set_option maxRecDepth 100000 in
theorem c_X8_about {l : Launch} {D : va_G} {w : gw} {M : Nat → Nat → Int32} {J : Nat → Nat → Int64} {R : Nat → Nat → Option Nat} (hw : w.1 = 166) (hR : LayM R) {x : Int32} : Cf l yX8_about wsX8_about ({ frames := 1, cells := 0, slots := 0, locals := 20 } : Room) D w [.ref (w.2.1 134), .int x] M J R (some (.int (if x = 0 then M 134 23 else if x = 1 then M 134 2 else if isSh (x - 10) = 0 then -1 else M 141 (x - 10).toNatClampNeg))) M J R := by
  refine Cg.of (own := RX8) (cc := cX8_about) (maxL := 2) (ret := (some .int)) 0 (by decide) rfl rfl (Nat.le_of_ble_eq_true rfl) (fun X C hts V Rr => ?_)
  have F8 : FW X 8 := fun q h => hts q (List.mem_cons_of_mem _ (List.mem_append_right _ h))
  show Gj X 0 0 w M J R 0 [some (.ref (w.2.1 134)), some (.int x)] []
  refine g_iload_n C dX8_about_0 rfl ?_
  refine g_if_ne (tgt := 11) C dX8_about_1 (by decide) (fun c1 => ?_) (fun c1 => ?_)
  · refine g_iload_n C dX8_about_11 rfl ?_
    refine g_iconst (v := 1) C dX8_about_12 (by decide) ?_
    refine g_icmp_ne (tgt := 23) C dX8_about_13 (by decide) (fun c13 => ?_) (fun c13 => ?_)
    · refine g_iload_n C dX8_about_23 rfl ?_
      refine g_bipush (v := 10) C dX8_about_24 (by decide) ?_
      refine g_isub C dX8_about_26 ?_
      refine g_callSf C hts V (gX8_about_X8_isShelf) rfl hdX8_isShelf (by decide) c_X8_isShelf rfl rfl (Nat.le_of_ble_eq_true rfl) dX8_about_27 ?_
      refine g_if_eq (tgt := 45) C dX8_about_30 (by decide) (fun c30 => ?_) (fun c30 => ?_)
      · refine g_iconst (v := (-1)) C dX8_about_45 (by decide) ?_
        exact g_iret C Rr ⟨rfl, ⟨by simp only [if_neg c1, if_neg c13, if_pos c30], rfl⟩⟩ dX8_about_46
      · refine g_aload_n C dX8_about_33 rfl ?_
        refine g_getr (j := 141) C F8 (by rw [hw]; decide) rfl (by decide) 15 (by decide) rfl (hts (.fieldLink RX8 33 "FallBenchModel" "many" "[I") (by decide +kernel)) rfl (hR (15, 141) (by decide)) dX8_about_34 ?_
        refine g_iload_n C dX8_about_37 rfl ?_
        refine g_bipush (v := 10) C dX8_about_38 (by decide) ?_
        refine g_isub C dX8_about_40 ?_
        refine g_iald C (by rw [hw]; decide) rfl (in_mono (sh_in c30) (by decide)) rfl dX8_about_41 ?_
        refine g_goto (tgt := 46) C dX8_about_42 (by decide) ?_
        exact g_iret C Rr ⟨rfl, ⟨by simp only [if_neg c1, if_neg c13, if_neg c30], rfl⟩⟩ dX8_about_46
    · refine g_aload_n C dX8_about_16 rfl ?_
      refine g_geti C F8 (by rw [hw]; decide) rfl (by decide) 2 (by decide) rfl (hts (.fieldLink RX8 184 "FallBenchModel" "taped" "I") (by decide +kernel)) rfl rfl dX8_about_17 ?_
      refine g_goto (tgt := 46) C dX8_about_20 (by decide) ?_
      exact g_iret C Rr ⟨rfl, ⟨by simp only [if_neg c1, if_pos c13], rfl⟩⟩ dX8_about_46
  · refine g_aload_n C dX8_about_4 rfl ?_
    refine g_geti C F8 (by rw [hw]; decide) rfl (by decide) 23 (by decide) rfl (hts (.fieldLink RX8 225 "FallBenchModel" "inputMany" "I") (by decide +kernel)) rfl rfl dX8_about_5 ?_
    refine g_goto (tgt := 46) C dX8_about_8 (by decide) ?_
    exact g_iret C Rr ⟨rfl, ⟨by simp only [if_pos c1], rfl⟩⟩ dX8_about_46

set_option maxHeartbeats 4000000 in
set_option maxRecDepth 100000 in
theorem c_X7_byteOf {l : Launch} {D : va_G} {w : gw} {M : Nat → Nat → Int32} {J : Nat → Nat → Int64} {R : Nat → Nat → Option Nat} (hw : w.1 = 166) (hR : LayC R) {n : Nat} (hn : n ≤ 30) (h9 : M 0 9 = nI n) {i k : Int32} : Cf l yX7_byteOf wsX7_byteOf ({ frames := 1, cells := 0, slots := 0, locals := 21 } : Room) D w [.ref (w.2.1 0), .int i, .int k] M J R (some (.int (if isIn (M 0 9) i = 0 then -1 else b_at M (74 + 2 * i.toNatClampNeg) k))) M J R := by
  generalize hqe : 74 + 2 * i.toNatClampNeg = q
  refine Cg.of (own := RX7) (cc := cX7_byteOf) (maxL := 3) (ret := (some .int)) 0 (by decide) rfl rfl (Nat.le_of_ble_eq_true rfl) (fun X C hts V Rr => ?_)
  have F7 : FW X 7 := fun q h => hts q (List.mem_cons_of_mem _ (List.mem_append_left _ (List.mem_append_right _ h)))
  have F3 : FW X 3 := fun q h => hts q (List.mem_cons_of_mem _ (List.mem_append_right _ h))
  show Gj X 0 0 w M J R 0 [some (.ref (w.2.1 0)), some (.int i), some (.int k)] []
  refine g_aload_n C dX7_byteOf_0 rfl ?_
  refine g_iload_n C dX7_byteOf_1 rfl ?_
  refine g_callVf C hts V (i := 0) (gX7_byteOf_X7_isInput) rfl hdX7_isInput (by decide) (c_X7_isInput hw hR) (by rw [hw]; decide) rfl (by decide) rfl rfl (Nat.le_of_ble_eq_true rfl) dX7_byteOf_2 ?_
  refine g_if_eq (tgt := 21) C dX7_byteOf_5 (by decide) (fun c5 => ?_) (fun c5 => ?_)
  · refine g_iconst (v := (-1)) C dX7_byteOf_21 (by decide) ?_
    exact g_iret C Rr ⟨rfl, ⟨by simp only [if_pos c5], rfl⟩⟩ dX7_byteOf_22
  · refine g_aload_n C dX7_byteOf_8 rfl ?_
    refine g_getr (j := 19) C F7 (by rw [hw]; decide) rfl (by decide) 3 (by decide) rfl (hts (.fieldLink RX7 31 "FallBench" "inputs" "[LFallBench$Row;") (by decide +kernel)) rfl (hR (0, 3, 19) (by decide)) dX7_byteOf_9 ?_
    refine g_iload_n C dX7_byteOf_12 rfl ?_
    have hi30 : vp_in i 30 := in_mono (in_in (by omega) (by rw [h9] at c5; exact c5)) hn
    have hq := row_in hw hR (in_lt hi30)
    rw [hqe] at hq
    obtain ⟨hq3, hq⟩ := hq
    obtain ⟨q_hi1, q_k, q_k1, q_0⟩ := id hq
    have q_hi : q < w.1 := by omega
    refine g_aald (j := q) C (by rw [hw]; decide) (by decide) hi30 hq3 dX7_byteOf_13 ?_
    refine g_iload_n C dX7_byteOf_14 rfl ?_
    refine g_callVf C hts V (i := q) (gX7_byteOf_X3_byteAt) rfl hdX3_byteAt (by decide) (c_X3_byteAt hq) q_hi q_k (by decide) rfl rfl (Nat.le_of_ble_eq_true rfl) dX7_byteOf_15 ?_
    refine g_goto (tgt := 22) C dX7_byteOf_18 (by decide) ?_
    exact g_iret C Rr ⟨rfl, ⟨by simp only [if_neg c5], rfl⟩⟩ dX7_byteOf_22

theorem ix_in {n N m : Nat} {i k : Int32} (hi : vp_in i n) (hk : vp_in k m) (hN : m * n ≤ N) (h2 : N < 2 ^ 31) (h3 : m < 2 ^ 31) (h4 : n < 2 ^ 31) : vp_in (nI m * i + k) N ∧ (nI m * i + k).toNatClampNeg = m * i.toNatClampNeg + k.toNatClampNeg := by
  obtain ⟨a, ha, rfl⟩ := vp_in_of hi h4
  obtain ⟨b, hb, rfl⟩ := vp_in_of hk h3
  have : m * a + b < m * n := by
    have : m * (a + 1) ≤ m * n := Nat.mul_le_mul_left m ha
    rw [Nat.mul_add] at this; omega
  rw [pk_mul, nI_add, nI_clamp (by omega), nI_clamp (by omega), nI_clamp (by omega)]
  exact ⟨vp_in_nI (by omega) h2, rfl⟩

set_option maxHeartbeats 4000000 in
set_option maxRecDepth 100000 in
theorem c_X8_byteOf {l : Launch} {D : va_G} {w : gw} {M : Nat → Nat → Int32} {J : Nat → Nat → Int64} {R : Nat → Nat → Option Nat} (hw : w.1 = 166) (hR : LayM R) {n : Nat} (hn : n ≤ 30) (h9 : M 134 23 = nI n) (hz : ∀ j, j < n → ∃ z : Nat, z ≤ 24 ∧ M 147 j = nI z) {i k : Int32} : Cf l yX8_byteOf wsX8_byteOf ({ frames := 1, cells := 0, slots := 0, locals := 21 } : Room) D w [.ref (w.2.1 134), .int i, .int k] M J R (some (.int (if isIn (M 134 23) i = 0 then -1 else if k < 0 then -1 else if M 147 i.toNatClampNeg ≤ k then -1 else M 146 (24 * i.toNatClampNeg + k.toNatClampNeg)))) M J R := by
  refine Cg.of (own := RX8) (cc := cX8_byteOf) (maxL := 3) (ret := (some .int)) 0 (by decide) rfl rfl (Nat.le_of_ble_eq_true rfl) (fun X C hts V Rr => ?_)
  have F8 : FW X 8 := fun q h => hts q (List.mem_cons_of_mem _ (List.mem_append_right _ h))
  show Gj X 0 0 w M J R 0 [some (.ref (w.2.1 134)), some (.int i), some (.int k)] []
  refine g_aload_n C dX8_byteOf_0 rfl ?_
  refine g_iload_n C dX8_byteOf_1 rfl ?_
  refine g_callVf C hts V (i := 134) (gX8_byteOf_X8_isInput) rfl hdX8_isInput (by decide) (c_X8_isInput hw hR) (by rw [hw]; decide) rfl (by decide) rfl rfl (Nat.le_of_ble_eq_true rfl) dX8_byteOf_2 ?_
  refine g_if_eq (tgt := 36) C dX8_byteOf_5 (by decide) (fun c5 => ?_) (fun c5 => ?_)
  · refine g_iconst (v := (-1)) C dX8_byteOf_36 (by decide) ?_
    exact g_iret C Rr ⟨rfl, ⟨by simp only [if_pos c5], rfl⟩⟩ dX8_byteOf_37
  · refine g_iload_n C dX8_byteOf_8 rfl ?_
    refine g_if_lt (tgt := 36) C dX8_byteOf_9 (by decide) (fun c9 => ?_) (fun c9 => ?_)
    · refine g_iconst (v := (-1)) C dX8_byteOf_36 (by decide) ?_
      exact g_iret C Rr ⟨rfl, ⟨by simp only [if_neg c5, if_pos c9], rfl⟩⟩ dX8_byteOf_37
    · refine g_iload_n C dX8_byteOf_12 rfl ?_
      refine g_aload_n C dX8_byteOf_13 rfl ?_
      refine g_getr (j := 147) C F8 (by rw [hw]; decide) rfl (by decide) 22 (by decide) rfl (hts (.fieldLink RX8 52 "FallBenchModel" "inputSize" "[I") (by decide +kernel)) rfl (hR (22, 147) (by decide)) dX8_byteOf_14 ?_
      refine g_iload_n C dX8_byteOf_17 rfl ?_
      have hin : vp_in i n := in_in (by omega) (by rw [h9] at c5; exact c5)
      have hi30 : vp_in i 30 := in_mono hin hn
      refine g_iald C (by rw [hw]; decide) rfl hi30 rfl dX8_byteOf_18 ?_
      refine g_icmp_ge (tgt := 36) C dX8_byteOf_19 (by decide) (fun c19 => ?_) (fun c19 => ?_)
      · refine g_iconst (v := (-1)) C dX8_byteOf_36 (by decide) ?_
        exact g_iret C Rr ⟨rfl, ⟨by simp only [if_neg c5, if_neg c9, if_pos c19], rfl⟩⟩ dX8_byteOf_37
      · refine g_aload_n C dX8_byteOf_22 rfl ?_
        refine g_getr (j := 146) C F8 (by rw [hw]; decide) rfl (by decide) 21 (by decide) rfl (hts (.fieldLink RX8 49 "FallBenchModel" "inputs" "[I") (by decide +kernel)) rfl (hR (21, 146) (by decide)) dX8_byteOf_23 ?_
        refine g_bipush (v := 24) C dX8_byteOf_26 (by decide) ?_
        refine g_iload_n C dX8_byteOf_28 rfl ?_
        refine g_imul C dX8_byteOf_29 ?_
        refine g_iload_n C dX8_byteOf_30 rfl ?_
        refine g_iadd C dX8_byteOf_31 ?_
        obtain ⟨z, hz1, hz2⟩ := hz _ (in_lt hin)
        have hk24 : vp_in k 24 := in_mono (inOf (n := z) (by omega) c9 (by rw [hz2] at c19; exact c19)) hz1
        have hix := ix_in (n := 30) (N := 720) (m := 24) hi30 hk24 (by decide) (by decide) (by decide) (by decide)
        refine g_iald (v := M 146 (24 * i.toNatClampNeg + k.toNatClampNeg)) C (by rw [hw]; decide) rfl hix.1 (congrArg (M 146) hix.2) dX8_byteOf_32 ?_
        refine g_goto (tgt := 37) C dX8_byteOf_33 (by decide) ?_
        exact g_iret C Rr ⟨rfl, ⟨by simp only [if_neg c5, if_neg c9, if_neg c19], rfl⟩⟩ dX8_byteOf_37

def r_act (M : Nat → Nat → Int32) (a b c d j : Nat) (x : Int32) : Int32 := if x = 0 then M a j else if x = 1 then M b j else if x = 2 then M c j else if x = 3 then M d j else -1

set_option maxHeartbeats 4000000 in
set_option maxRecDepth 100000 in
theorem c_X7_act {l : Launch} {D : va_G} {w : gw} {M : Nat → Nat → Int32} {J : Nat → Nat → Int64} {R : Nat → Nat → Option Nat} (hw : w.1 = 166) (hR : LayC R) {π : Nat → Nat} (hS : ∀ k, k < 3 → R 3 k = some (π k) ∧ isProg w R (π k)) (hC : ∀ k, k < 3 → ∃ n : Nat, n ≤ 80 ∧ M (π k) 4 = nI n) {s k x : Int32} : Cf l yX7_act wsX7_act ({ frames := 1, cells := 0, slots := 0, locals := 20 } : Room) D w [.ref (w.2.1 0), .int s, .int k, .int x] M J R (some (.int (if isSh s = 0 then (if x = 3 then -1000000 else -1) else if k < 0 then (if x = 3 then -1000000 else -1) else if k < M (π s.toNatClampNeg) 4 then r_act M (π s.toNatClampNeg + 1) (π s.toNatClampNeg + 2) (π s.toNatClampNeg + 3) (π s.toNatClampNeg + 4) k.toNatClampNeg x else (if x = 3 then -1000000 else -1)))) M J R := by
  generalize hpe : π s.toNatClampNeg = p
  refine Cg.of (own := RX7) (cc := cX7_act) (maxL := 5) (ret := (some .int)) 1 (by decide) rfl rfl (Nat.le_of_ble_eq_true rfl) (fun X C hts V Rr => ?_)
  have F7 : FW X 7 := fun q h => hts q (List.mem_cons_of_mem _ (List.mem_append_left _ (List.mem_append_right _ h)))
  have F2 : FW X 2 := fun q h => hts q (List.mem_cons_of_mem _ (List.mem_append_right _ h))
  show Gj X 0 0 w M J R 0 [some (.ref (w.2.1 0)), some (.int s), some (.int k), some (.int x), none] []
  refine g_iload_n C dX7_act_0 rfl ?_
  refine g_callSf C hts V (gX7_act_X7_isShelf) rfl hdX7_isShelf (by decide) c_X7_isShelf rfl rfl (Nat.le_of_ble_eq_true rfl) dX7_act_1 ?_
  refine g_if_eq (tgt := 24) C dX7_act_4 (by decide) (fun c4 => ?_) (fun c4 => ?_)
  · refine g_iload_n C dX7_act_24 rfl ?_
    refine g_iconst (v := 3) C dX7_act_25 (by decide) ?_
    refine g_icmp_ne (tgt := 34) C dX7_act_26 (by decide) (fun c26 => ?_) (fun c26 => ?_)
    · refine g_iconst (v := (-1)) C dX7_act_34 (by decide) ?_
      exact g_iret C Rr ⟨rfl, ⟨by simp only [r_act, if_pos c4, if_neg c26], rfl⟩⟩ dX7_act_35
    · refine g_ldc C (hts (.constant RX7 98 (-1000000)) (by decide +kernel)) dX7_act_29 ?_
      refine g_goto (tgt := 35) C dX7_act_31 (by decide) ?_
      exact g_iret C Rr ⟨rfl, ⟨by simp only [r_act, if_pos c4, if_pos c26], rfl⟩⟩ dX7_act_35
  · refine g_iload_n C dX7_act_7 rfl ?_
    refine g_if_lt (tgt := 24) C dX7_act_8 (by decide) (fun c8 => ?_) (fun c8 => ?_)
    · refine g_iload_n C dX7_act_24 rfl ?_
      refine g_iconst (v := 3) C dX7_act_25 (by decide) ?_
      refine g_icmp_ne (tgt := 34) C dX7_act_26 (by decide) (fun c26 => ?_) (fun c26 => ?_)
      · refine g_iconst (v := (-1)) C dX7_act_34 (by decide) ?_
        exact g_iret C Rr ⟨rfl, ⟨by simp only [r_act, if_neg c4, if_pos c8, if_neg c26], rfl⟩⟩ dX7_act_35
      · refine g_ldc C (hts (.constant RX7 98 (-1000000)) (by decide +kernel)) dX7_act_29 ?_
        refine g_goto (tgt := 35) C dX7_act_31 (by decide) ?_
        exact g_iret C Rr ⟨rfl, ⟨by simp only [r_act, if_neg c4, if_pos c8, if_pos c26], rfl⟩⟩ dX7_act_35
    · refine g_iload_n C dX7_act_11 rfl ?_
      refine g_aload_n C dX7_act_12 rfl ?_
      refine g_getr (j := 3) C F7 (by rw [hw]; decide) rfl (by decide) 1 (by decide) rfl (hts (.fieldLink RX7 20 "FallBench" "shelves" "[LFallBench$Program;") (by decide +kernel)) rfl (hR (0, 1, 3) (by decide)) dX7_act_13 ?_
      refine g_iload_n C dX7_act_16 rfl ?_
      have hp := hS _ (in_lt (sh_in c4))
      obtain ⟨n, hn80, hcn⟩ := hC _ (in_lt (sh_in c4))
      rw [hpe] at hp hcn
      obtain ⟨hp3, hp⟩ := hp
      obtain ⟨p_hi4, p_k, p_k1, p_k2, p_k3, p_k4, p_l1, p_l2, p_l3, p_l4, p_r0, p_r1, p_r2, p_r3⟩ := id hp
      have p_hi : p < w.1 := by omega
      have p_hi1 : p + 1 < w.1 := by omega
      have p_hi2 : p + 2 < w.1 := by omega
      have p_hi3 : p + 3 < w.1 := by omega
      refine g_aald (j := p) C (by rw [hw]; decide) (by decide) (sh_in c4) hp3 dX7_act_17 ?_
      refine g_geti C F2 p_hi p_k (by decide) 4 (by decide) rfl (hts (.fieldLink RX7 92 "FallBench$Program" "count" "I") (by decide +kernel)) rfl rfl dX7_act_18 ?_
      refine g_icmp_lt (tgt := 36) C dX7_act_21 (by decide) (fun c21 => ?_) (fun c21 => ?_)
      · refine g_aload_n C dX7_act_36 rfl ?_
        refine g_getr (j := 3) C F7 (by rw [hw]; decide) rfl (by decide) 1 (by decide) rfl (hts (.fieldLink RX7 20 "FallBench" "shelves" "[LFallBench$Program;") (by decide +kernel)) rfl (hR (0, 1, 3) (by decide)) dX7_act_37 ?_
        refine g_iload_n C dX7_act_40 rfl ?_
        refine g_aald (j := p) C (by rw [hw]; decide) (by decide) (sh_in c4) hp3 dX7_act_41 ?_
        refine g_astore C V.2.1 dX7_act_42 (by decide) rfl ?_
        refine g_iload_n C dX7_act_44 rfl ?_
        by_cases s45_0 : x = 0
        · refine g_tableIn (tgt := 76) C dX7_act_45 (by rw [s45_0]; decide) (by rw [s45_0]; decide) (by rw [s45_0]; rfl) (by decide) ?_
          refine g_aload C dX7_act_76 rfl ?_
          refine g_getr (j := (p + 1)) C F2 p_hi p_k (by decide) 0 (by decide) rfl (hts (.fieldLink RX7 99 "FallBench$Program" "kinds" "[I") (by decide +kernel)) rfl p_r0 dX7_act_78 ?_
          refine g_iload_n C dX7_act_81 rfl ?_
          refine g_iald C p_hi1 p_k1 (by rw [p_l1]; exact (in_mono (inOf (n := n) (by omega) c8 (nlt_nle (by rw [hcn] at c21; exact c21))) hn80)) rfl dX7_act_82 ?_
          exact g_iret C Rr ⟨rfl, ⟨by simp only [r_act, if_neg c4, if_neg c8, if_pos c21, if_pos s45_0], rfl⟩⟩ dX7_act_83
        by_cases s45_1 : x = 1
        · refine g_tableIn (tgt := 84) C dX7_act_45 (by rw [s45_1]; decide) (by rw [s45_1]; decide) (by rw [s45_1]; rfl) (by decide) ?_
          refine g_aload C dX7_act_84 rfl ?_
          refine g_getr (j := (p + 2)) C F2 p_hi p_k (by decide) 1 (by decide) rfl (hts (.fieldLink RX7 103 "FallBench$Program" "firsts" "[I") (by decide +kernel)) rfl p_r1 dX7_act_86 ?_
          refine g_iload_n C dX7_act_89 rfl ?_
          refine g_iald C p_hi2 p_k2 (by rw [p_l2]; exact (in_mono (inOf (n := n) (by omega) c8 (nlt_nle (by rw [hcn] at c21; exact c21))) hn80)) rfl dX7_act_90 ?_
          exact g_iret C Rr ⟨rfl, ⟨by simp only [r_act, if_neg c4, if_neg c8, if_pos c21, if_neg s45_0, if_pos s45_1], rfl⟩⟩ dX7_act_91
        by_cases s45_2 : x = 2
        · refine g_tableIn (tgt := 92) C dX7_act_45 (by rw [s45_2]; decide) (by rw [s45_2]; decide) (by rw [s45_2]; rfl) (by decide) ?_
          refine g_aload C dX7_act_92 rfl ?_
          refine g_getr (j := (p + 3)) C F2 p_hi p_k (by decide) 2 (by decide) rfl (hts (.fieldLink RX7 106 "FallBench$Program" "seconds" "[I") (by decide +kernel)) rfl p_r2 dX7_act_94 ?_
          refine g_iload_n C dX7_act_97 rfl ?_
          refine g_iald C p_hi3 p_k3 (by rw [p_l3]; exact (in_mono (inOf (n := n) (by omega) c8 (nlt_nle (by rw [hcn] at c21; exact c21))) hn80)) rfl dX7_act_98 ?_
          exact g_iret C Rr ⟨rfl, ⟨by simp only [r_act, if_neg c4, if_neg c8, if_pos c21, if_neg s45_0, if_neg s45_1, if_pos s45_2], rfl⟩⟩ dX7_act_99
        by_cases s45_3 : x = 3
        · refine g_tableIn (tgt := 100) C dX7_act_45 (by rw [s45_3]; decide) (by rw [s45_3]; decide) (by rw [s45_3]; rfl) (by decide) ?_
          refine g_aload C dX7_act_100 rfl ?_
          refine g_getr (j := (p + 4)) C F2 p_hi p_k (by decide) 3 (by decide) rfl (hts (.fieldLink RX7 109 "FallBench$Program" "numbers" "[I") (by decide +kernel)) rfl p_r3 dX7_act_102 ?_
          refine g_iload_n C dX7_act_105 rfl ?_
          refine g_iald C p_hi4 p_k4 (by rw [p_l4]; exact (in_mono (inOf (n := n) (by omega) c8 (nlt_nle (by rw [hcn] at c21; exact c21))) hn80)) rfl dX7_act_106 ?_
          exact g_iret C Rr ⟨rfl, ⟨by simp only [r_act, if_neg c4, if_neg c8, if_pos c21, if_neg s45_0, if_neg s45_1, if_neg s45_2, if_pos s45_3], rfl⟩⟩ dX7_act_107
        refine g_tableOut (tgt := 108) C dX7_act_45 (by have e0 := lv_neT s45_0 (a := 0) (by decide); have e1 := lv_neT s45_1 (a := 1) (by decide); have e2 := lv_neT s45_2 (a := 2) (by decide); have e3 := lv_neT s45_3 (a := 3) (by decide); omega) (by decide) ?_
        refine g_iconst (v := (-1)) C dX7_act_108 (by decide) ?_
        exact g_iret C Rr ⟨rfl, ⟨by simp only [r_act, if_neg c4, if_neg c8, if_pos c21, if_neg s45_0, if_neg s45_1, if_neg s45_2, if_neg s45_3], rfl⟩⟩ dX7_act_109
      · refine g_iload_n C dX7_act_24 rfl ?_
        refine g_iconst (v := 3) C dX7_act_25 (by decide) ?_
        refine g_icmp_ne (tgt := 34) C dX7_act_26 (by decide) (fun c26 => ?_) (fun c26 => ?_)
        · refine g_iconst (v := (-1)) C dX7_act_34 (by decide) ?_
          exact g_iret C Rr ⟨rfl, ⟨by simp only [r_act, if_neg c4, if_neg c8, if_neg c21, if_neg c26], rfl⟩⟩ dX7_act_35
        · refine g_ldc C (hts (.constant RX7 98 (-1000000)) (by decide +kernel)) dX7_act_29 ?_
          refine g_goto (tgt := 35) C dX7_act_31 (by decide) ?_
          exact g_iret C Rr ⟨rfl, ⟨by simp only [r_act, if_neg c4, if_neg c8, if_neg c21, if_pos c26], rfl⟩⟩ dX7_act_35

set_option maxHeartbeats 4000000 in
set_option maxRecDepth 100000 in
theorem c_X8_act {l : Launch} {D : va_G} {w : gw} {M : Nat → Nat → Int32} {J : Nat → Nat → Int64} {R : Nat → Nat → Option Nat} (hw : w.1 = 166) (hR : LayM R) (hC : ∀ k, k < 3 → ∃ n : Nat, n ≤ 80 ∧ M 141 k = nI n) {s k x : Int32} : Cf l yX8_act wsX8_act ({ frames := 1, cells := 0, slots := 0, locals := 20 } : Room) D w [.ref (w.2.1 134), .int s, .int k, .int x] M J R (some (.int (if isSh s = 0 then (if x = 3 then -1000000 else -1) else if k < 0 then (if x = 3 then -1000000 else -1) else if k < M 141 s.toNatClampNeg then r_act M 137 138 139 140 (80 * s.toNatClampNeg + k.toNatClampNeg) x else (if x = 3 then -1000000 else -1)))) M J R := by
  refine Cg.of (own := RX8) (cc := cX8_act) (maxL := 5) (ret := (some .int)) 1 (by decide) rfl rfl (Nat.le_of_ble_eq_true rfl) (fun X C hts V Rr => ?_)
  have F8 : FW X 8 := fun q h => hts q (List.mem_cons_of_mem _ (List.mem_append_right _ h))
  show Gj X 0 0 w M J R 0 [some (.ref (w.2.1 134)), some (.int s), some (.int k), some (.int x), none] []
  refine g_iload_n C dX8_act_0 rfl ?_
  refine g_callSf C hts V (gX8_act_X8_isShelf) rfl hdX8_isShelf (by decide) c_X8_isShelf rfl rfl (Nat.le_of_ble_eq_true rfl) dX8_act_1 ?_
  refine g_if_eq (tgt := 21) C dX8_act_4 (by decide) (fun c4 => ?_) (fun c4 => ?_)
  · refine g_iload_n C dX8_act_21 rfl ?_
    refine g_iconst (v := 3) C dX8_act_22 (by decide) ?_
    refine g_icmp_ne (tgt := 31) C dX8_act_23 (by decide) (fun c23 => ?_) (fun c23 => ?_)
    · refine g_iconst (v := (-1)) C dX8_act_31 (by decide) ?_
      exact g_iret C Rr ⟨rfl, ⟨by simp only [r_act, if_pos c4, if_neg c23], rfl⟩⟩ dX8_act_32
    · refine g_ldc C (hts (.constant RX8 224 (-1000000)) (by decide +kernel)) dX8_act_26 ?_
      refine g_goto (tgt := 32) C dX8_act_28 (by decide) ?_
      exact g_iret C Rr ⟨rfl, ⟨by simp only [r_act, if_pos c4, if_pos c23], rfl⟩⟩ dX8_act_32
  · refine g_iload_n C dX8_act_7 rfl ?_
    refine g_if_lt (tgt := 21) C dX8_act_8 (by decide) (fun c8 => ?_) (fun c8 => ?_)
    · refine g_iload_n C dX8_act_21 rfl ?_
      refine g_iconst (v := 3) C dX8_act_22 (by decide) ?_
      refine g_icmp_ne (tgt := 31) C dX8_act_23 (by decide) (fun c23 => ?_) (fun c23 => ?_)
      · refine g_iconst (v := (-1)) C dX8_act_31 (by decide) ?_
        exact g_iret C Rr ⟨rfl, ⟨by simp only [r_act, if_neg c4, if_pos c8, if_neg c23], rfl⟩⟩ dX8_act_32
      · refine g_ldc C (hts (.constant RX8 224 (-1000000)) (by decide +kernel)) dX8_act_26 ?_
        refine g_goto (tgt := 32) C dX8_act_28 (by decide) ?_
        exact g_iret C Rr ⟨rfl, ⟨by simp only [r_act, if_neg c4, if_pos c8, if_pos c23], rfl⟩⟩ dX8_act_32
    · refine g_iload_n C dX8_act_11 rfl ?_
      refine g_aload_n C dX8_act_12 rfl ?_
      refine g_getr (j := 141) C F8 (by rw [hw]; decide) rfl (by decide) 15 (by decide) rfl (hts (.fieldLink RX8 33 "FallBenchModel" "many" "[I") (by decide +kernel)) rfl (hR (15, 141) (by decide)) dX8_act_13 ?_
      refine g_iload_n C dX8_act_16 rfl ?_
      refine g_iald C (by rw [hw]; decide) rfl (in_mono (sh_in c4) (by decide)) rfl dX8_act_17 ?_
      refine g_icmp_lt (tgt := 33) C dX8_act_18 (by decide) (fun c18 => ?_) (fun c18 => ?_)
      · obtain ⟨n, hn80, hcn⟩ := hC _ (in_lt (sh_in c4))
        have hix := ix_in (n := 3) (N := 320) (m := 80) (sh_in c4) (in_mono (inOf (n := n) (by omega) c8 (nlt_nle (by rw [hcn] at c18; exact c18))) hn80) (by decide) (by decide) (by decide) (by decide)
        refine g_bipush (v := 80) C dX8_act_33 (by decide) ?_
        refine g_iload_n C dX8_act_35 rfl ?_
        refine g_imul C dX8_act_36 ?_
        refine g_iload_n C dX8_act_37 rfl ?_
        refine g_iadd C dX8_act_38 ?_
        refine g_istore C V.2.1 dX8_act_39 (by decide) rfl ?_
        refine g_iload_n C dX8_act_41 rfl ?_
        by_cases s42_0 : x = 0
        · refine g_tableIn (tgt := 72) C dX8_act_42 (by rw [s42_0]; decide) (by rw [s42_0]; decide) (by rw [s42_0]; rfl) (by decide) ?_
          refine g_aload_n C dX8_act_72 rfl ?_
          refine g_getr (j := 137) C F8 (by rw [hw]; decide) rfl (by decide) 11 (by decide) rfl (hts (.fieldLink RX8 20 "FallBenchModel" "aWhat" "[I") (by decide +kernel)) rfl (hR (11, 137) (by decide)) dX8_act_73 ?_
          refine g_iload C dX8_act_76 rfl ?_
          refine g_iald (v := M 137 (80 * s.toNatClampNeg + k.toNatClampNeg)) C (by rw [hw]; decide) rfl hix.1 (congrArg (M 137) hix.2) dX8_act_78 ?_
          exact g_iret C Rr ⟨rfl, ⟨by simp only [r_act, if_neg c4, if_neg c8, if_pos c18, if_pos s42_0], rfl⟩⟩ dX8_act_79
        by_cases s42_1 : x = 1
        · refine g_tableIn (tgt := 80) C dX8_act_42 (by rw [s42_1]; decide) (by rw [s42_1]; decide) (by rw [s42_1]; rfl) (by decide) ?_
          refine g_aload_n C dX8_act_80 rfl ?_
          refine g_getr (j := 138) C F8 (by rw [hw]; decide) rfl (by decide) 12 (by decide) rfl (hts (.fieldLink RX8 24 "FallBenchModel" "aOne" "[I") (by decide +kernel)) rfl (hR (12, 138) (by decide)) dX8_act_81 ?_
          refine g_iload C dX8_act_84 rfl ?_
          refine g_iald (v := M 138 (80 * s.toNatClampNeg + k.toNatClampNeg)) C (by rw [hw]; decide) rfl hix.1 (congrArg (M 138) hix.2) dX8_act_86 ?_
          exact g_iret C Rr ⟨rfl, ⟨by simp only [r_act, if_neg c4, if_neg c8, if_pos c18, if_neg s42_0, if_pos s42_1], rfl⟩⟩ dX8_act_87
        by_cases s42_2 : x = 2
        · refine g_tableIn (tgt := 88) C dX8_act_42 (by rw [s42_2]; decide) (by rw [s42_2]; decide) (by rw [s42_2]; rfl) (by decide) ?_
          refine g_aload_n C dX8_act_88 rfl ?_
          refine g_getr (j := 139) C F8 (by rw [hw]; decide) rfl (by decide) 13 (by decide) rfl (hts (.fieldLink RX8 27 "FallBenchModel" "aTwo" "[I") (by decide +kernel)) rfl (hR (13, 139) (by decide)) dX8_act_89 ?_
          refine g_iload C dX8_act_92 rfl ?_
          refine g_iald (v := M 139 (80 * s.toNatClampNeg + k.toNatClampNeg)) C (by rw [hw]; decide) rfl hix.1 (congrArg (M 139) hix.2) dX8_act_94 ?_
          exact g_iret C Rr ⟨rfl, ⟨by simp only [r_act, if_neg c4, if_neg c8, if_pos c18, if_neg s42_0, if_neg s42_1, if_pos s42_2], rfl⟩⟩ dX8_act_95
        by_cases s42_3 : x = 3
        · refine g_tableIn (tgt := 96) C dX8_act_42 (by rw [s42_3]; decide) (by rw [s42_3]; decide) (by rw [s42_3]; rfl) (by decide) ?_
          refine g_aload_n C dX8_act_96 rfl ?_
          refine g_getr (j := 140) C F8 (by rw [hw]; decide) rfl (by decide) 14 (by decide) rfl (hts (.fieldLink RX8 30 "FallBenchModel" "aN" "[I") (by decide +kernel)) rfl (hR (14, 140) (by decide)) dX8_act_97 ?_
          refine g_iload C dX8_act_100 rfl ?_
          refine g_iald (v := M 140 (80 * s.toNatClampNeg + k.toNatClampNeg)) C (by rw [hw]; decide) rfl hix.1 (congrArg (M 140) hix.2) dX8_act_102 ?_
          exact g_iret C Rr ⟨rfl, ⟨by simp only [r_act, if_neg c4, if_neg c8, if_pos c18, if_neg s42_0, if_neg s42_1, if_neg s42_2, if_pos s42_3], rfl⟩⟩ dX8_act_103
        refine g_tableOut (tgt := 104) C dX8_act_42 (by have e0 := lv_neT s42_0 (a := 0) (by decide); have e1 := lv_neT s42_1 (a := 1) (by decide); have e2 := lv_neT s42_2 (a := 2) (by decide); have e3 := lv_neT s42_3 (a := 3) (by decide); omega) (by decide) ?_
        refine g_iconst (v := (-1)) C dX8_act_104 (by decide) ?_
        exact g_iret C Rr ⟨rfl, ⟨by simp only [r_act, if_neg c4, if_neg c8, if_pos c18, if_neg s42_0, if_neg s42_1, if_neg s42_2, if_neg s42_3], rfl⟩⟩ dX8_act_105
      · refine g_iload_n C dX8_act_21 rfl ?_
        refine g_iconst (v := 3) C dX8_act_22 (by decide) ?_
        refine g_icmp_ne (tgt := 31) C dX8_act_23 (by decide) (fun c23 => ?_) (fun c23 => ?_)
        · refine g_iconst (v := (-1)) C dX8_act_31 (by decide) ?_
          exact g_iret C Rr ⟨rfl, ⟨by simp only [r_act, if_neg c4, if_neg c8, if_neg c18, if_neg c23], rfl⟩⟩ dX8_act_32
        · refine g_ldc C (hts (.constant RX8 224 (-1000000)) (by decide +kernel)) dX8_act_26 ?_
          refine g_goto (tgt := 32) C dX8_act_28 (by decide) ?_
          exact g_iret C Rr ⟨rfl, ⟨by simp only [r_act, if_neg c4, if_neg c8, if_neg c18, if_pos c23], rfl⟩⟩ dX8_act_32
