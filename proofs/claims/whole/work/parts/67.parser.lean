/-! THE PARSER, cell 4: its leaves -/
section GS
variable {X : gX} {cc : ByteArray} {a b pc : Nat} {w : gw} {M : Nat → Nat → Int32} {J : Nat → Nat → Int64} {R : Nat → Nat → Option Nat} {lv : List (Option Value)} {rest : List Value}
theorem g_getsR (C : Cx X RX1 cc) (d : decode cc pc = .ok (.getstatic 121, 3)) (kk : ∀ q : Nat, (va_X q 14 regs (x_s X) (x_s X).heap ∧ ¬ x_A X q) → Gj X a b w M J R (pc + 3) lv (.ref q :: rest)) : Gj X a b w M J R pc lv rest := by
  intro H locs ls h1 h2 h3 h4 h5 h6
  obtain ⟨hN, ⟨q, z1, z2, z3⟩, -⟩ := C.2.2.2.2.2
  exact va_getsN (host := RX7) C.1 C.2.1 z1 h5 C.2.2.1 (va_tabs rfl rfl hN.2.2.2.2.2.2.2.2.2.2.2) (fun x h => h) d (kk q ⟨z2, z3⟩ H locs ls h1 h2 h3 h4 h5 h6)
theorem g_sld {own : String} (C : Cx X own cc) {q L : Nat} {xs : Nat → Int32} (hq : va_X q L xs (x_s X) (x_s X).heap ∧ ¬ x_A X q) {x v : Int32} (hin : vp_in x L) (hv : xs x.toNatClampNeg = v) (d : decode cc pc = .ok (.iaload, 1)) (kk : Gj X a b w M J R (pc + 1) lv (.int v :: rest)) : Gj X a b w M J R pc lv (.int x :: .ref q :: rest) := by
  intro H locs ls h1 h2 h3 h4 h5 h6
  subst hv
  exact va_sld C.1 C.2.1 hq.1 (by obtain ⟨scr, g, -⟩ := hq.1; exact (Array.getElem?_eq_some_iff.mp g).1) hq.2 h5 hin d (kk H locs ls h1 h2 h3 h4 h5 h6)
end GS
theorem lcmp_eq {x y : Int64} (h : lg_cmp x y = 0) : x = y := by
  unfold lg_cmp at h
  split at h
  · exact absurd h (by decide)
  · split at h
    · assumption
    · exact absurd h (by decide)
theorem lcmp_ne {x y : Int64} (h : ¬ lg_cmp x y = 0) : ¬ x = y := by
  intro e
  apply h
  subst e
  unfold lg_cmp
  rw [if_neg (fun q => by have q : x.toInt < x.toInt := Int64.lt_iff_toInt_lt.mp q; omega), if_pos rfl]

theorem hdX1_kindOfToken : yX1_kindOfToken.cls = cR 1 ∧ yX1_kindOfToken.cls ≠ "java/lang/invoke/MethodHandle" ∧ yX1_kindOfToken.cls ≠ "java/lang/invoke/VarHandle" ∧ (parseMethodDescriptor yX1_kindOfToken.desc).map (fun d => d.parameters.length) = some 0 := by decide +kernel

theorem hdX1_setFault : yX1_setFault.cls = cR 1 ∧ yX1_setFault.cls ≠ "java/lang/invoke/MethodHandle" ∧ yX1_setFault.cls ≠ "java/lang/invoke/VarHandle" ∧ (parseMethodDescriptor yX1_setFault.desc).map (fun d => d.parameters.length) = some 1 := by decide +kernel

theorem hdX1_kindOfWord : yX1_kindOfWord.cls = cR 1 ∧ yX1_kindOfWord.cls ≠ "java/lang/invoke/MethodHandle" ∧ yX1_kindOfWord.cls ≠ "java/lang/invoke/VarHandle" ∧ (parseMethodDescriptor yX1_kindOfWord.desc).map (fun d => d.parameters.length) = some 1 := by decide +kernel

theorem hdX1_labelNumber : yX1_labelNumber.cls = cR 1 ∧ yX1_labelNumber.cls ≠ "java/lang/invoke/MethodHandle" ∧ yX1_labelNumber.cls ≠ "java/lang/invoke/VarHandle" ∧ (parseMethodDescriptor yX1_labelNumber.desc).map (fun d => d.parameters.length) = some 1 := by decide +kernel

theorem hdX1_labelIsNext : yX1_labelIsNext.cls = cR 1 ∧ yX1_labelIsNext.cls ≠ "java/lang/invoke/MethodHandle" ∧ yX1_labelIsNext.cls ≠ "java/lang/invoke/VarHandle" ∧ (parseMethodDescriptor yX1_labelIsNext.desc).map (fun d => d.parameters.length) = some 0 := by decide +kernel

theorem hdX1_take : yX1_take.cls = cR 1 ∧ yX1_take.cls ≠ "java/lang/invoke/MethodHandle" ∧ yX1_take.cls ≠ "java/lang/invoke/VarHandle" ∧ (parseMethodDescriptor yX1_take.desc).map (fun d => d.parameters.length) = some 1 := by decide +kernel

theorem hdX1_takeValue : yX1_takeValue.cls = cR 1 ∧ yX1_takeValue.cls ≠ "java/lang/invoke/MethodHandle" ∧ yX1_takeValue.cls ≠ "java/lang/invoke/VarHandle" ∧ (parseMethodDescriptor yX1_takeValue.desc).map (fun d => d.parameters.length) = some 1 := by decide +kernel

theorem hdX1_takeWanted : yX1_takeWanted.cls = cR 1 ∧ yX1_takeWanted.cls ≠ "java/lang/invoke/MethodHandle" ∧ yX1_takeWanted.cls ≠ "java/lang/invoke/VarHandle" ∧ (parseMethodDescriptor yX1_takeWanted.desc).map (fun d => d.parameters.length) = some 1 := by decide +kernel

theorem hdX1_readLabel : yX1_readLabel.cls = cR 1 ∧ yX1_readLabel.cls ≠ "java/lang/invoke/MethodHandle" ∧ yX1_readLabel.cls ≠ "java/lang/invoke/VarHandle" ∧ (parseMethodDescriptor yX1_readLabel.desc).map (fun d => d.parameters.length) = some 0 := by decide +kernel

theorem hdX1_readAct : yX1_readAct.cls = cR 1 ∧ yX1_readAct.cls ≠ "java/lang/invoke/MethodHandle" ∧ yX1_readAct.cls ≠ "java/lang/invoke/VarHandle" ∧ (parseMethodDescriptor yX1_readAct.desc).map (fun d => d.parameters.length) = some 0 := by decide +kernel

theorem hdX1_readLine : yX1_readLine.cls = cR 1 ∧ yX1_readLine.cls ≠ "java/lang/invoke/MethodHandle" ∧ yX1_readLine.cls ≠ "java/lang/invoke/VarHandle" ∧ (parseMethodDescriptor yX1_readLine.desc).map (fun d => d.parameters.length) = some 0 := by decide +kernel

theorem hdX1_findWanted : yX1_findWanted.cls = cR 1 ∧ yX1_findWanted.cls ≠ "java/lang/invoke/MethodHandle" ∧ yX1_findWanted.cls ≠ "java/lang/invoke/VarHandle" ∧ (parseMethodDescriptor yX1_findWanted.desc).map (fun d => d.parameters.length) = some 0 := by decide +kernel

theorem hdX1_parse : yX1_parse.cls = cR 1 ∧ yX1_parse.cls ≠ "java/lang/invoke/MethodHandle" ∧ yX1_parse.cls ≠ "java/lang/invoke/VarHandle" ∧ (parseMethodDescriptor yX1_parse.desc).map (fun d => d.parameters.length) = some 1 := by decide +kernel

theorem hdX1_exchange : yX1_exchange.cls = cR 1 ∧ yX1_exchange.cls ≠ "java/lang/invoke/MethodHandle" ∧ yX1_exchange.cls ≠ "java/lang/invoke/VarHandle" ∧ (parseMethodDescriptor yX1_exchange.desc).map (fun d => d.parameters.length) = some 1 := by decide +kernel

theorem hdX1_goesToLabel : yX1_goesToLabel.cls ≠ "java/lang/invoke/MethodHandle" ∧ yX1_goesToLabel.cls ≠ "java/lang/invoke/VarHandle" ∧ (parseMethodDescriptor yX1_goesToLabel.desc).map (fun d => d.parameters.length) = some 1 := by decide +kernel

set_option maxHeartbeats 4000000 in
set_option maxRecDepth 100000 in
theorem c_X1_goesToLabel {l : Launch} {D : va_G} {w : gw} {M : Nat → Nat → Int32} {J : Nat → Nat → Int64} {R : Nat → Nat → Option Nat} {k : Int32} : Cf l yX1_goesToLabel wsX1_goesToLabel ({ frames := 0, cells := 0, slots := 0, locals := 0 } : Room) D w [.int k] M J R (some (.int (goL k))) M J R := by
  refine Cg.of (own := RX1) (cc := cX1_goesToLabel) (maxL := 1) (ret := (some .boolean)) 0 (by decide) rfl rfl (Nat.le_of_ble_eq_true rfl) (fun X C hts V Rr => ?_)
  show Gj X 0 0 w M J R 0 [some (.int k)] []
  refine g_iload_n C dX1_goesToLabel_0 rfl ?_
  refine g_bipush (v := 8) C dX1_goesToLabel_1 (by decide) ?_
  refine g_icmp_eq (tgt := 18) C dX1_goesToLabel_3 (by decide) (fun c3 => ?_) (fun c3 => ?_)
  · refine g_iconst (v := 1) C dX1_goesToLabel_18 (by decide) ?_
    refine g_goto (tgt := 23) C dX1_goesToLabel_19 (by decide) ?_
    exact g_zret C Rr rfl ⟨rfl, ⟨by simp only [goL, if_pos c3], rfl⟩⟩ dX1_goesToLabel_23
  · refine g_iload_n C dX1_goesToLabel_6 rfl ?_
    refine g_bipush (v := 9) C dX1_goesToLabel_7 (by decide) ?_
    refine g_icmp_eq (tgt := 18) C dX1_goesToLabel_9 (by decide) (fun c9 => ?_) (fun c9 => ?_)
    · refine g_iconst (v := 1) C dX1_goesToLabel_18 (by decide) ?_
      refine g_goto (tgt := 23) C dX1_goesToLabel_19 (by decide) ?_
      exact g_zret C Rr rfl ⟨rfl, ⟨by simp only [goL, if_neg c3, if_pos c9], rfl⟩⟩ dX1_goesToLabel_23
    · refine g_iload_n C dX1_goesToLabel_12 rfl ?_
      refine g_bipush (v := 10) C dX1_goesToLabel_13 (by decide) ?_
      refine g_icmp_ne (tgt := 22) C dX1_goesToLabel_15 (by decide) (fun c15 => ?_) (fun c15 => ?_)
      · refine g_iconst (v := 0) C dX1_goesToLabel_22 (by decide) ?_
        exact g_zret C Rr rfl ⟨rfl, ⟨by simp only [goL, if_neg c3, if_neg c9, if_neg c15], rfl⟩⟩ dX1_goesToLabel_23
      · refine g_iconst (v := 1) C dX1_goesToLabel_18 (by decide) ?_
        refine g_goto (tgt := 23) C dX1_goesToLabel_19 (by decide) ?_
        exact g_zret C Rr rfl ⟨rfl, ⟨by simp only [goL, if_neg c3, if_neg c9, if_pos c15], rfl⟩⟩ dX1_goesToLabel_23

set_option maxHeartbeats 4000000 in
set_option maxRecDepth 100000 in
theorem c_X1_kindOfToken {l : Launch} {D : va_G} {w : gw} {M : Nat → Nat → Int32} {J : Nat → Nat → Int64} {R : Nat → Nat → Option Nat} (hw : w.1 = 166) (hR : LayC R) {n : Nat} (hat : M 4 7 = nI n) (hn : n ≤ 1000) : Cf l yX1_kindOfToken wsX1_kindOfToken ({ frames := 0, cells := 0, slots := 0, locals := 0 } : Room) D w [.ref (w.2.1 4)] M J R (some (.int (M 6 n))) M J R := by
  refine Cg.of (own := RX1) (cc := cX1_kindOfToken) (maxL := 1) (ret := (some .int)) 0 (by decide) rfl rfl (Nat.le_of_ble_eq_true rfl) (fun X C hts V Rr => ?_)
  have F1 : FW X 1 := fun q h => hts q (List.mem_cons_of_mem _ (List.mem_append_left _ (List.mem_append_right _ h)))
  have F5 : FW X 5 := fun q h => hts q (List.mem_cons_of_mem _ (List.mem_append_right _ h))
  show Gj X 0 0 w M J R 0 [some (.ref (w.2.1 4))] []
  refine g_aload_n C dX1_kindOfToken_0 rfl ?_
  refine g_getr (j := 5) C F1 (by rw [hw]; decide) rfl (by decide) 0 (by decide) rfl (hts (.fieldLink RX1 12 "FallBench$Parser" "tokens" "LFallBench$Tokens;") (by decide +kernel)) rfl (hR (4, 0, 5) (by decide)) dX1_kindOfToken_1 ?_
  refine g_getr (j := 6) C F5 (by rw [hw]; decide) rfl (by decide) 0 (by decide) rfl (hts (.fieldLink RX1 143 "FallBench$Tokens" "kinds" "[I") (by decide +kernel)) rfl (hR (5, 0, 6) (by decide)) dX1_kindOfToken_4 ?_
  refine g_aload_n C dX1_kindOfToken_7 rfl ?_
  refine g_geti (v := nI n) C F1 (by rw [hw]; decide) rfl (by decide) 7 (by decide) rfl (hts (.fieldLink RX1 39 "FallBench$Parser" "at" "I") (by decide +kernel)) rfl hat dX1_kindOfToken_8 ?_
  refine g_iald (v := M 6 n) C (by rw [hw]; decide) rfl (vp_in_nI (N := 1001) (by omega) (by decide)) (by rw [nI_clamp (by omega)]) dX1_kindOfToken_11 ?_
  exact g_iret C Rr ⟨rfl, ⟨rfl, rfl⟩⟩ dX1_kindOfToken_12

set_option maxHeartbeats 4000000 in
set_option maxRecDepth 100000 in
theorem c_X1_setFault {l : Launch} {D : va_G} {w : gw} {M : Nat → Nat → Int32} {J : Nat → Nat → Int64} {R : Nat → Nat → Option Nat} (hw : w.1 = 166) (hR : LayC R) {n : Nat} (hat : M 4 7 = nI n) (hn : n ≤ 1000) {k : Int32} : Cf l yX1_setFault wsX1_setFault ({ frames := 0, cells := 0, slots := 0, locals := 0 } : Room) D w [.ref (w.2.1 4), .int k] M J R none (up2 (up2 M 4 9 k) 4 10 (M 7 n)) J R := by
  refine Cg.of (own := RX1) (cc := cX1_setFault) (maxL := 2) (ret := none) 0 (by decide) rfl rfl (Nat.le_of_ble_eq_true rfl) (fun X C hts V Rr => ?_)
  have F1 : FW X 1 := fun q h => hts q (List.mem_cons_of_mem _ (List.mem_append_left _ (List.mem_append_right _ h)))
  have F5 : FW X 5 := fun q h => hts q (List.mem_cons_of_mem _ (List.mem_append_right _ h))
  show Gj X 0 0 w M J R 0 [some (.ref (w.2.1 4)), some (.int k)] []
  refine g_aload_n C dX1_setFault_0 rfl ?_
  refine g_iload_n C dX1_setFault_1 rfl ?_
  refine g_puti C F1 (by rw [hw]; decide) rfl (by decide) 9 (by decide) rfl (hts (.fieldLink RX1 49 "FallBench$Parser" "faultKind" "I") (by decide +kernel)) rfl rfl rfl rfl dX1_setFault_2 ?_
  refine g_aload_n C dX1_setFault_5 rfl ?_
  refine g_aload_n C dX1_setFault_6 rfl ?_
  refine g_getr (j := 5) C F1 (by rw [hw]; decide) rfl (by decide) 0 (by decide) rfl (hts (.fieldLink RX1 12 "FallBench$Parser" "tokens" "LFallBench$Tokens;") (by decide +kernel)) rfl (hR (4, 0, 5) (by decide)) dX1_setFault_7 ?_
  refine g_getr (j := 7) C F5 (by rw [hw]; decide) rfl (by decide) 1 (by decide) rfl (hts (.fieldLink RX1 140 "FallBench$Tokens" "places" "[I") (by decide +kernel)) rfl (hR (5, 1, 7) (by decide)) dX1_setFault_10 ?_
  refine g_aload_n C dX1_setFault_13 rfl ?_
  refine g_geti (v := nI n) C F1 (by rw [hw]; decide) rfl (by decide) 7 (by decide) rfl (hts (.fieldLink RX1 39 "FallBench$Parser" "at" "I") (by decide +kernel)) rfl (by rw [up2_n2 _ _ (by decide)]; exact hat) dX1_setFault_14 ?_
  refine g_iald (v := M 7 n) C (by rw [hw]; decide) rfl (vp_in_nI (N := 1001) (by omega) (by decide)) (by rw [nI_clamp (by omega), up2_n1 _ _ (by decide)]) dX1_setFault_17 ?_
  refine g_puti C F1 (by rw [hw]; decide) rfl (by decide) 10 (by decide) rfl (hts (.fieldLink RX1 52 "FallBench$Parser" "faultPlace" "I") (by decide +kernel)) rfl rfl rfl rfl dX1_setFault_18 ?_
  exact g_vret C Rr ⟨rfl, ⟨rfl, rfl⟩⟩ dX1_setFault_21

set_option maxHeartbeats 4000000 in
set_option maxRecDepth 100000 in
theorem c_X1_kindOfWord {l : Launch} {D : va_G} {w : gw} {M : Nat → Nat → Int32} {J : Nat → Nat → Int64} {R : Nat → Nat → Option Nat} (hw : w.1 = 166) (hR : LayC R) {v : Int64} : Cf l yX1_kindOfWord wsX1_kindOfWord ({ frames := 0, cells := 0, slots := 0, locals := 0 } : Room) D w [.ref (w.2.1 4), .long v] M J R (some (.int (optI (hfd (fun k => J 9 k = v) 14)))) M J R := by
  refine Cg.of (own := RX1) (cc := cX1_kindOfWord) (maxL := 4) (ret := (some .int)) 1 (by decide) rfl rfl (Nat.le_of_ble_eq_true rfl) (fun X C hts V Rr => ?_)
  have F1 : FW X 1 := fun q h => hts q (List.mem_cons_of_mem _ (List.mem_append_right _ h))
  show Gj X 0 0 w M J R 0 [some (.ref (w.2.1 4)), some (.long v), none, none] []
  have loop : ∀ dd j, j + dd = 14 → hfd (fun k => J 9 k = v) j = none → Gj X 0 0 w M J R 2 [some (.ref (w.2.1 4)), some (.long v), none, some (.int (nI j))] [] := by
    intro dd
    induction dd with
    | zero =>
      intro j hj hv
      obtain rfl : j = 14 := by omega
      refine g_iload_n C dX1_kindOfWord_2 rfl ?_
      refine g_bipush (v := 14) C dX1_kindOfWord_3 (by decide) ?_
      refine g_icmp_ge (tgt := 27) C dX1_kindOfWord_5 (by decide) (fun c5 => ?_) (fun c5 => absurd c5 (not_not_intro (by decide)))
      refine g_iconst (v := (-1)) C dX1_kindOfWord_27 (by decide) ?_
      exact g_iret C Rr ⟨rfl, ⟨by rw [hv]; rfl, rfl⟩⟩ dX1_kindOfWord_28
    | succ dd ih =>
      intro j hj hv
      refine g_iload_n C dX1_kindOfWord_2 rfl ?_
      refine g_bipush (v := 14) C dX1_kindOfWord_3 (by decide) ?_
      refine g_icmp_ge (tgt := 27) C dX1_kindOfWord_5 (by decide) (fun c5 => absurd c5 (nI_ge (a := j) (b := 14) (by omega) (by omega))) (fun c5 => ?_)
      refine g_aload_n C dX1_kindOfWord_8 rfl ?_
      refine g_getr (j := 9) C F1 (by rw [hw]; decide) rfl (by decide) 1 (by decide) rfl (hts (.fieldLink RX1 18 "FallBench$Parser" "actNames" "[J") (by decide +kernel)) rfl (hR (4, 1, 9) (by decide)) dX1_kindOfWord_9 ?_
      refine g_iload_n C dX1_kindOfWord_12 rfl ?_
      refine g_lald (v := J 9 j) C (by rw [hw]; decide) rfl (vp_in_nI (N := 14) (by omega) (by decide)) (by rw [nI_clamp (by omega)]) dX1_kindOfWord_13 ?_
      refine g_lload_n C dX1_kindOfWord_14 rfl ?_
      refine g_lcmp C dX1_kindOfWord_15 ?_
      refine g_if_ne (tgt := 21) C dX1_kindOfWord_16 (by decide) (fun c16 => ?_) (fun c16 => ?_)
      · refine g_iinc (v := nI (j + 1)) C V.2.1 dX1_kindOfWord_21 rfl (nI_succ j).symm (by decide) rfl ?_
        refine g_goto (tgt := 2) C dX1_kindOfWord_24 (by decide) ?_
        exact ih (j + 1) (by omega) (by rw [hfd_s hv, if_neg (lcmp_ne c16)])
      · refine g_iload_n C dX1_kindOfWord_19 rfl ?_
        exact g_iret C Rr ⟨rfl, ⟨by rw [hfd_up (n := j + 1) (h := j) (by rw [hfd_s hv, if_pos (lcmp_eq c16)]) 14 (by omega)]; rfl, rfl⟩⟩ dX1_kindOfWord_20
  refine g_iconst (v := 0) C dX1_kindOfWord_0 (by decide) ?_
  refine g_istore_n C V.2.1 dX1_kindOfWord_1 (by decide) rfl ?_
  exact loop 14 0 (by omega) rfl

set_option maxHeartbeats 4000000 in
set_option maxRecDepth 100000 in
theorem c_X1_labelNumber {l : Launch} {D : va_G} {w : gw} {M : Nat → Nat → Int32} {J : Nat → Nat → Int64} {R : Nat → Nat → Option Nat} (hw : w.1 = 166) (hR : LayC R) {v : Int64} {c : Nat} (hc : M 4 6 = nI c) (hc2 : c ≤ 20) : Cf l yX1_labelNumber wsX1_labelNumber ({ frames := 0, cells := 0, slots := 0, locals := 0 } : Room) D w [.ref (w.2.1 4), .long v] M J R (some (.int (optI (hfd (fun k => J 10 k = v) c)))) M J R := by
  refine Cg.of (own := RX1) (cc := cX1_labelNumber) (maxL := 4) (ret := (some .int)) 1 (by decide) rfl rfl (Nat.le_of_ble_eq_true rfl) (fun X C hts V Rr => ?_)
  have F1 : FW X 1 := fun q h => hts q (List.mem_cons_of_mem _ (List.mem_append_right _ h))
  show Gj X 0 0 w M J R 0 [some (.ref (w.2.1 4)), some (.long v), none, none] []
  have loop : ∀ dd j, j + dd = c → hfd (fun k => J 10 k = v) j = none → Gj X 0 0 w M J R 2 [some (.ref (w.2.1 4)), some (.long v), none, some (.int (nI j))] [] := by
    intro dd
    induction dd with
    | zero =>
      intro j hj hv
      obtain rfl : j = c := by omega
      refine g_iload_n C dX1_labelNumber_2 rfl ?_
      refine g_aload_n C dX1_labelNumber_3 rfl ?_
      refine g_geti (v := nI j) C F1 (by rw [hw]; decide) rfl (by decide) 6 (by decide) rfl (hts (.fieldLink RX1 35 "FallBench$Parser" "labelCount" "I") (by decide +kernel)) rfl hc dX1_labelNumber_4 ?_
      refine g_icmp_ge (tgt := 29) C dX1_labelNumber_7 (by decide) (fun c7 => ?_) (fun c7 => absurd c7 (not_not_intro (nI_le (Nat.le_refl _) (by omega))))
      refine g_iconst (v := (-1)) C dX1_labelNumber_29 (by decide) ?_
      exact g_iret C Rr ⟨rfl, ⟨by rw [hv]; rfl, rfl⟩⟩ dX1_labelNumber_30
    | succ dd ih =>
      intro j hj hv
      refine g_iload_n C dX1_labelNumber_2 rfl ?_
      refine g_aload_n C dX1_labelNumber_3 rfl ?_
      refine g_geti (v := nI c) C F1 (by rw [hw]; decide) rfl (by decide) 6 (by decide) rfl (hts (.fieldLink RX1 35 "FallBench$Parser" "labelCount" "I") (by decide +kernel)) rfl hc dX1_labelNumber_4 ?_
      refine g_icmp_ge (tgt := 29) C dX1_labelNumber_7 (by decide) (fun c7 => absurd c7 (nI_ge (a := j) (b := c) (by omega) (by omega))) (fun c7 => ?_)
      refine g_aload_n C dX1_labelNumber_10 rfl ?_
      refine g_getr (j := 10) C F1 (by rw [hw]; decide) rfl (by decide) 2 (by decide) rfl (hts (.fieldLink RX1 22 "FallBench$Parser" "labels" "[J") (by decide +kernel)) rfl (hR (4, 2, 10) (by decide)) dX1_labelNumber_11 ?_
      refine g_iload_n C dX1_labelNumber_14 rfl ?_
      refine g_lald (v := J 10 j) C (by rw [hw]; decide) rfl (vp_in_nI (N := 20) (by omega) (by decide)) (by rw [nI_clamp (by omega)]) dX1_labelNumber_15 ?_
      refine g_lload_n C dX1_labelNumber_16 rfl ?_
      refine g_lcmp C dX1_labelNumber_17 ?_
      refine g_if_ne (tgt := 23) C dX1_labelNumber_18 (by decide) (fun c18 => ?_) (fun c18 => ?_)
      · refine g_iinc (v := nI (j + 1)) C V.2.1 dX1_labelNumber_23 rfl (nI_succ j).symm (by decide) rfl ?_
        refine g_goto (tgt := 2) C dX1_labelNumber_26 (by decide) ?_
        exact ih (j + 1) (by omega) (by rw [hfd_s hv, if_neg (lcmp_ne c18)])
      · refine g_iload_n C dX1_labelNumber_21 rfl ?_
        exact g_iret C Rr ⟨rfl, ⟨by rw [hfd_up (n := j + 1) (h := j) (by rw [hfd_s hv, if_pos (lcmp_eq c18)]) c (by omega)]; rfl, rfl⟩⟩ dX1_labelNumber_22
  refine g_iconst (v := 0) C dX1_labelNumber_0 (by decide) ?_
  refine g_istore_n C V.2.1 dX1_labelNumber_1 (by decide) rfl ?_
  exact loop c 0 (by omega) rfl

set_option maxHeartbeats 4000000 in
set_option maxRecDepth 100000 in
theorem c_X1_labelIsNext {l : Launch} {D : va_G} {w : gw} {M : Nat → Nat → Int32} {J : Nat → Nat → Int64} {R : Nat → Nat → Option Nat} (hw : w.1 = 166) (hR : LayC R) {n : Nat} (hat : M 4 7 = nI n) (hn : n ≤ 1000) : Cf l yX1_labelIsNext wsX1_labelIsNext ({ frames := 1, cells := 0, slots := 0, locals := 23 } : Room) D w [.ref (w.2.1 4)] M J R (some (.int (if M 6 n = 1 then (if optI (hfd (fun k => J 9 k = J 8 n) 14) = -1 then 1 else 0) else 0))) M J R := by
  refine Cg.of (own := RX1) (cc := cX1_labelIsNext) (maxL := 1) (ret := (some .boolean)) 0 (by decide) rfl rfl (Nat.le_of_ble_eq_true rfl) (fun X C hts V Rr => ?_)
  have F1 : FW X 1 := fun q h => hts q (List.mem_cons_of_mem _ (List.mem_append_left _ (List.mem_append_right _ h)))
  have F5 : FW X 5 := fun q h => hts q (List.mem_cons_of_mem _ (List.mem_append_right _ h))
  show Gj X 0 0 w M J R 0 [some (.ref (w.2.1 4))] []
  refine g_aload_n C dX1_labelIsNext_0 rfl ?_
  refine g_callVf C hts V (i := 4) (gX1_labelIsNext_X1_kindOfToken) rfl hdX1_kindOfToken (by decide) (c_X1_kindOfToken hw hR hat hn) (by rw [hw]; decide) rfl (by decide) rfl rfl (Nat.le_of_ble_eq_true rfl) dX1_labelIsNext_1 ?_
  refine g_iconst (v := 1) C dX1_labelIsNext_4 (by decide) ?_
  refine g_icmp_ne (tgt := 32) C dX1_labelIsNext_5 (by decide) (fun c5 => ?_) (fun c5 => ?_)
  · refine g_iconst (v := 0) C dX1_labelIsNext_32 (by decide) ?_
    exact g_zret C Rr rfl ⟨rfl, ⟨by simp only [if_neg c5], rfl⟩⟩ dX1_labelIsNext_33
  · refine g_aload_n C dX1_labelIsNext_8 rfl ?_
    refine g_aload_n C dX1_labelIsNext_9 rfl ?_
    refine g_getr (j := 5) C F1 (by rw [hw]; decide) rfl (by decide) 0 (by decide) rfl (hts (.fieldLink RX1 12 "FallBench$Parser" "tokens" "LFallBench$Tokens;") (by decide +kernel)) rfl (hR (4, 0, 5) (by decide)) dX1_labelIsNext_10 ?_
    refine g_getr (j := 8) C F5 (by rw [hw]; decide) rfl (by decide) 2 (by decide) rfl (hts (.fieldLink RX1 105 "FallBench$Tokens" "values" "[J") (by decide +kernel)) rfl (hR (5, 2, 8) (by decide)) dX1_labelIsNext_13 ?_
    refine g_aload_n C dX1_labelIsNext_16 rfl ?_
    refine g_geti (v := nI n) C F1 (by rw [hw]; decide) rfl (by decide) 7 (by decide) rfl (hts (.fieldLink RX1 39 "FallBench$Parser" "at" "I") (by decide +kernel)) rfl hat dX1_labelIsNext_17 ?_
    refine g_lald (v := J 8 n) C (by rw [hw]; decide) rfl (vp_in_nI (N := 1001) (by omega) (by decide)) (by rw [nI_clamp (by omega)]) dX1_labelIsNext_20 ?_
    refine g_callVf C hts V (i := 4) (gX1_labelIsNext_X1_kindOfWord) rfl hdX1_kindOfWord (by decide) (c_X1_kindOfWord hw hR) (by rw [hw]; decide) rfl (by decide) rfl rfl (Nat.le_of_ble_eq_true rfl) dX1_labelIsNext_21 ?_
    refine g_iconst (v := (-1)) C dX1_labelIsNext_24 (by decide) ?_
    refine g_icmp_ne (tgt := 32) C dX1_labelIsNext_25 (by decide) (fun c25 => ?_) (fun c25 => ?_)
    · refine g_iconst (v := 0) C dX1_labelIsNext_32 (by decide) ?_
      exact g_zret C Rr rfl ⟨rfl, ⟨by simp only [if_pos c5, if_neg c25], rfl⟩⟩ dX1_labelIsNext_33
    · refine g_iconst (v := 1) C dX1_labelIsNext_28 (by decide) ?_
      refine g_goto (tgt := 33) C dX1_labelIsNext_29 (by decide) ?_
      exact g_zret C Rr rfl ⟨rfl, ⟨by simp only [if_pos c5, if_pos c25], rfl⟩⟩ dX1_labelIsNext_33
