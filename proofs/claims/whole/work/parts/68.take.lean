/-! THE PARSER: take, takeValue, takeWanted -/
def psI (M : Nat → Nat → Int32) (x : px) : Prop := M 4 7 = nI x.1 ∧ M 4 9 = x.2.1 ∧ M 4 10 = x.2.2
def pm (M : Nat → Nat → Int32) (x : px) : Nat → Nat → Int32 := up2 (up2 (up2 M 4 7 (nI x.1)) 4 9 x.2.1) 4 10 x.2.2
def namC (J : Nat → Nat → Int64) : Prop := ∀ k, k < 14 → J 9 k = enc5 (nm k)
theorem pm_o {M : Nat → Nat → Int32} {x : px} {a b : Nat} (h : ¬ (a = 4 ∧ (b = 7 ∨ b = 9 ∨ b = 10))) : pm M x a b = M a b := by
  unfold pm
  rw [up2_nb (fun z => h ⟨z.1, Or.inr (Or.inr z.2)⟩), up2_nb (fun z => h ⟨z.1, Or.inr (Or.inl z.2)⟩), up2_nb (fun z => h ⟨z.1, Or.inl z.2⟩)]
theorem pm_c {M : Nat → Nat → Int32} {x : px} {a b : Nat} (h : a ≠ 4) : pm M x a b = M a b := pm_o (fun z => h z.1)
theorem pm_7 (M : Nat → Nat → Int32) (x : px) : pm M x 4 7 = nI x.1 := by unfold pm; rw [up2_n2 _ _ (by decide), up2_n2 _ _ (by decide), up2_eq]
theorem pm_9 (M : Nat → Nat → Int32) (x : px) : pm M x 4 9 = x.2.1 := by unfold pm; rw [up2_n2 _ _ (by decide), up2_eq]
theorem pm_10 (M : Nat → Nat → Int32) (x : px) : pm M x 4 10 = x.2.2 := by unfold pm; rw [up2_eq]
theorem pm_I (M : Nat → Nat → Int32) (x : px) : psI (pm M x) x := ⟨pm_7 M x, pm_9 M x, pm_10 M x⟩
theorem pm_of {M M' : Nat → Nat → Int32} {x : px} (h7 : M' 4 7 = nI x.1) (h9 : M' 4 9 = x.2.1) (h10 : M' 4 10 = x.2.2) (ho : ∀ a b, ¬ (a = 4 ∧ (b = 7 ∨ b = 9 ∨ b = 10)) → M' a b = M a b) : M' = pm M x := by
  funext a b
  by_cases h : a = 4 ∧ (b = 7 ∨ b = 9 ∨ b = 10)
  · obtain ⟨rfl, rfl | rfl | rfl⟩ := h
    · rw [pm_7, h7]
    · rw [pm_9, h9]
    · rw [pm_10, h10]
  · rw [pm_o h, ho a b h]
theorem pm_id {M : Nat → Nat → Int32} {x : px} (h : psI M x) : M = pm M x := pm_of h.1 h.2.1 h.2.2 (fun _ _ _ => rfl)
theorem pm_pm (M : Nat → Nat → Int32) (x y : px) : pm (pm M x) y = pm M y := pm_of (pm_7 _ _) (pm_9 _ _) (pm_10 _ _) (fun a b h => by rw [pm_o h, pm_o h])
theorem pm_flt {M : Nat → Nat → Int32} {T : List Int32} {x : px} {k : Int32} (h : psI M x) (h7 : M 7 x.1 = tP T x.1) : up2 (up2 M 4 9 k) 4 10 (M 7 x.1) = pm M (t_flt T k x) :=
  pm_of (by rw [up2_n2 _ _ (by decide), up2_n2 _ _ (by decide)]; exact h.1) (by rw [up2_n2 _ _ (by decide), up2_eq]; rfl) (by rw [up2_eq]; exact h7) (fun a b q => by rw [up2_nb (fun z => q ⟨z.1, Or.inr (Or.inr z.2)⟩), up2_nb (fun z => q ⟨z.1, Or.inr (Or.inl z.2)⟩)])
theorem pm_nx {M : Nat → Nat → Int32} {x : px} (h : psI M x) (h0 : x.2.1 = 0) : up2 M 4 7 (nI x.1 + 1) = pm M (x.1 + 1, 0, x.2.2) :=
  pm_of (by rw [up2_eq, nI_p1]) (by rw [up2_n2 _ _ (by decide)]; exact h.2.1.trans h0) (by rw [up2_n2 _ _ (by decide)]; exact h.2.2) (fun a b q => by rw [up2_nb (fun z => q ⟨z.1, Or.inl z.2⟩)])
theorem tabC.pm {T : List Int32} {M : Nat → Nat → Int32} {J : Nat → Nat → Int64} (h : tabC T M J) (x : px) : tabC T (pm M x) J := fun n hn => (h n hn).o (pm_c (by decide)) (pm_c (by decide)) rfl
theorem tabC.o {T : List Int32} {M M' : Nat → Nat → Int32} {J J' : Nat → Nat → Int64} (h : tabC T M J) (e6 : ∀ y, M' 6 y = M 6 y) (e7 : ∀ y, M' 7 y = M 7 y) (e8 : ∀ y, J' 8 y = J 8 y) : tabC T M' J' := fun n hn => (h n hn).o (e6 n) (e7 n) (e8 n)
theorem kw_is {J : Nat → Nat → Int64} (hJ : namC J) {W : List Int32} (hW : okW W) : optI (hfd (fun k => J 9 k = enc5 W) 14) = kwd W := by
  unfold kwd
  rw [hfd_congr 14 (q := fun k => nm k = W) (fun k hk => by rw [hJ k hk]; exact ⟨fun z => enc5_inj (nm_ok k hk) hW z, fun z => by rw [z]⟩)]
theorem tW_ok {T : List Int32} {n : Nat} (h : tK T n = 1) : okW (tW T n) := tkA_w h
theorem lab_is {T : List Int32} {M : Nat → Nat → Int32} {J : Nat → Nat → Int64} {n : Nat} (hJ : namC J) (h : ent T M J n) : (if M 6 n = 1 then (if optI (hfd (fun k => J 9 k = J 8 n) 14) = -1 then (1 : Int32) else 0) else 0) = if isLab T n then 1 else 0 := by
  rw [h.1]
  by_cases h1 : tK T n = 1
  · rw [if_pos h1, h.2.2.1 h1, kw_is hJ (tW_ok h1)]
    by_cases h2 : kwd (tW T n) = -1
    · rw [if_pos h2, if_pos ⟨h1, h2⟩]
    · rw [if_neg h2, if_neg (fun z => h2 z.2)]
  · rw [if_neg h1, if_neg (fun z => h1 z.1)]

set_option maxHeartbeats 4000000 in
set_option maxRecDepth 100000 in
theorem c_X1_take {l : Launch} {D : va_G} {w : gw} {M : Nat → Nat → Int32} {J : Nat → Nat → Int64} {R : Nat → Nat → Option Nat} (hw : w.1 = 166) (hR : LayC R) {T : List Int32} {x : px} (hX : okX T) (hp : psI M x) (hl : live T x.1) (hTb : tabC T M J) {k : Int32} (hk0 : ¬ k = 0) (hk6 : ¬ k = 6) : Cf l yX1_take wsX1_take ({ frames := 1, cells := 0, slots := 0, locals := 21 } : Room) D w [.ref (w.2.1 4), .int k] M J R (some (.int (if x.2.1 = 0 then (if tK T x.1 = k then 1 else 0) else 0))) (pm M (t_take T k x)) J R := by
  obtain ⟨hat, hfk, hfp⟩ := id hp
  have hn := live_le hX.1 hl
  have en := hTb _ hl
  refine Cg.of (own := RX1) (cc := cX1_take) (maxL := 2) (ret := (some .boolean)) 0 (by decide) rfl rfl (Nat.le_of_ble_eq_true rfl) (fun X C hts V Rr => ?_)
  have F1 : FW X 1 := fun q h => hts q (List.mem_cons_of_mem _ (List.mem_append_left _ (List.mem_append_right _ h)))
  have F5 : FW X 5 := fun q h => hts q (List.mem_cons_of_mem _ (List.mem_append_right _ h))
  show Gj X 0 0 w M J R 0 [some (.ref (w.2.1 4)), some (.int k)] []
  refine g_aload_n C dX1_take_0 rfl ?_
  refine g_geti C F1 (by rw [hw]; decide) rfl (by decide) 9 (by decide) rfl (hts (.fieldLink RX1 49 "FallBench$Parser" "faultKind" "I") (by decide +kernel)) rfl rfl dX1_take_1 ?_
  refine g_if_eq (tgt := 9) C dX1_take_4 (by decide) (fun c4 => ?_) (fun c4 => ?_)
  · have h0 : x.2.1 = 0 := hfk.symm.trans c4
    refine g_aload_n C dX1_take_9 rfl ?_
    refine g_callVf C hts V (i := 4) (gX1_take_X1_kindOfToken) rfl hdX1_kindOfToken (by decide) (Cf.to (c_X1_kindOfToken hw hR hat hn) (congrArg (fun z => some (Value.int z)) en.1) rfl) (by rw [hw]; decide) rfl (by decide) rfl rfl (Nat.le_of_ble_eq_true rfl) dX1_take_10 ?_
    refine g_iload_n C dX1_take_13 rfl ?_
    refine g_icmp_eq (tgt := 35) C dX1_take_14 (by decide) (fun c14 => ?_) (fun c14 => ?_)
    · have hlt := live_lt hX.1 hl (by rw [c14]; exact hk0) (by rw [c14]; exact hk6)
      refine g_aload_n C dX1_take_35 rfl ?_
      refine g_geti (v := nI x.1) C F1 (by rw [hw]; decide) rfl (by decide) 7 (by decide) rfl (hts (.fieldLink RX1 39 "FallBench$Parser" "at" "I") (by decide +kernel)) rfl hat dX1_take_36 ?_
      refine g_sipush (v := 1000) C dX1_take_39 (by decide) ?_
      refine g_icmp_ge (tgt := 55) C dX1_take_42 (by decide) (fun c42 => absurd c42 (nI_ge (a := x.1) (b := 1000) hlt (by decide))) (fun c42 => ?_)
      refine g_aload_n C dX1_take_45 rfl ?_
      refine g_dup C dX1_take_46 rfl ?_
      refine g_geti (v := nI x.1) C F1 (by rw [hw]; decide) rfl (by decide) 7 (by decide) rfl (hts (.fieldLink RX1 39 "FallBench$Parser" "at" "I") (by decide +kernel)) rfl hat dX1_take_47 ?_
      refine g_iconst (v := 1) C dX1_take_50 (by decide) ?_
      refine g_iadd C dX1_take_51 ?_
      refine g_puti C F1 (by rw [hw]; decide) rfl (by decide) 7 (by decide) rfl (hts (.fieldLink RX1 39 "FallBench$Parser" "at" "I") (by decide +kernel)) rfl rfl rfl rfl dX1_take_52 ?_
      refine g_iconst (v := 1) C dX1_take_55 (by decide) ?_
      exact g_zret C Rr rfl ⟨rfl, ⟨by rw [if_pos h0, if_pos c14], by rw [t_take_ok h0 c14, ← pm_nx hp h0]⟩⟩ dX1_take_56
    · refine g_aload_n C dX1_take_17 rfl ?_
      refine g_aload_n C dX1_take_18 rfl ?_
      refine g_callVf C hts V (i := 4) (gX1_take_X1_kindOfToken) rfl hdX1_kindOfToken (by decide) (Cf.to (c_X1_kindOfToken hw hR hat hn) (congrArg (fun z => some (Value.int z)) en.1) rfl) (by rw [hw]; decide) rfl (by decide) rfl rfl (Nat.le_of_ble_eq_true rfl) dX1_take_19 ?_
      refine g_if_ne (tgt := 29) C dX1_take_22 (by decide) (fun c22 => ?_) (fun c22 => ?_)
      · refine g_iconst (v := 2) C dX1_take_29 (by decide) ?_
        refine g_callVf C hts V (i := 4) (gX1_take_X1_setFault) rfl hdX1_setFault (by decide) (c_X1_setFault hw hR hat hn) (by rw [hw]; decide) rfl (by decide) rfl rfl (Nat.le_of_ble_eq_true rfl) dX1_take_30 ?_
        refine g_iconst (v := 0) C dX1_take_33 (by decide) ?_
        exact g_zret C Rr rfl ⟨rfl, ⟨by rw [if_pos h0, if_neg c14], by rw [t_take_bad h0 c14, t_bad, if_neg c22, ← pm_flt hp en.2.1]⟩⟩ dX1_take_34
      · refine g_iconst (v := 1) C dX1_take_25 (by decide) ?_
        refine g_goto (tgt := 30) C dX1_take_26 (by decide) ?_
        refine g_callVf C hts V (i := 4) (gX1_take_X1_setFault) rfl hdX1_setFault (by decide) (c_X1_setFault hw hR hat hn) (by rw [hw]; decide) rfl (by decide) rfl rfl (Nat.le_of_ble_eq_true rfl) dX1_take_30 ?_
        refine g_iconst (v := 0) C dX1_take_33 (by decide) ?_
        exact g_zret C Rr rfl ⟨rfl, ⟨by rw [if_pos h0, if_neg c14], by rw [t_take_bad h0 c14, t_bad, if_pos c22, ← pm_flt hp en.2.1]⟩⟩ dX1_take_34
  · refine g_iconst (v := 0) C dX1_take_7 (by decide) ?_
    exact g_zret C Rr rfl ⟨rfl, ⟨by rw [if_neg (fun z => c4 (hfk.trans z))], by rw [t_take_ne (fun z => c4 (hfk.trans z))]; rw [← pm_id hp]⟩⟩ dX1_take_8

set_option maxHeartbeats 4000000 in
set_option maxRecDepth 100000 in
theorem c_X1_takeValue {l : Launch} {D : va_G} {w : gw} {M : Nat → Nat → Int32} {J : Nat → Nat → Int64} {R : Nat → Nat → Option Nat} (hw : w.1 = 166) (hR : LayC R) {T : List Int32} {x : px} (hX : okX T) (hp : psI M x) (hl : live T x.1) (hTb : tabC T M J) {k : Int32} (hk23 : k = 2 ∨ k = 3) : Cf l yX1_takeValue wsX1_takeValue ({ frames := 2, cells := 0, slots := 0, locals := 42 } : Room) D w [.ref (w.2.1 4), .int k] M J R (some (.int (t_val T k x))) (pm M (t_take T k x)) J R := by
  obtain ⟨hat, hfk, hfp⟩ := id hp
  have hn := live_le hX.1 hl
  have en := hTb _ hl
  have hk0 : ¬ k = 0 := fun z => by rcases hk23 with q | q <;> (rw [q] at z; exact absurd z (by decide))
  have hk6 : ¬ k = 6 := fun z => by rcases hk23 with q | q <;> (rw [q] at z; exact absurd z (by decide))
  refine Cg.of (own := RX1) (cc := cX1_takeValue) (maxL := 3) (ret := (some .int)) 1 (by decide) rfl rfl (Nat.le_of_ble_eq_true rfl) (fun X C hts V Rr => ?_)
  have F1 : FW X 1 := fun q h => hts q (List.mem_cons_of_mem _ (List.mem_append_left _ (List.mem_append_right _ h)))
  have F5 : FW X 5 := fun q h => hts q (List.mem_cons_of_mem _ (List.mem_append_right _ h))
  show Gj X 0 0 w M J R 0 [some (.ref (w.2.1 4)), some (.int k), none] []
  by_cases h0 : x.2.1 = 0
  · by_cases h1 : tK T x.1 = k
    · refine g_aload_n C dX1_takeValue_0 rfl ?_
      refine g_getr (j := 5) C F1 (by rw [hw]; decide) rfl (by decide) 0 (by decide) rfl (hts (.fieldLink RX1 12 "FallBench$Parser" "tokens" "LFallBench$Tokens;") (by decide +kernel)) rfl (hR (4, 0, 5) (by decide)) dX1_takeValue_1 ?_
      refine g_getr (j := 8) C F5 (by rw [hw]; decide) rfl (by decide) 2 (by decide) rfl (hts (.fieldLink RX1 105 "FallBench$Tokens" "values" "[J") (by decide +kernel)) rfl (hR (5, 2, 8) (by decide)) dX1_takeValue_4 ?_
      refine g_aload_n C dX1_takeValue_7 rfl ?_
      refine g_geti (v := nI x.1) C F1 (by rw [hw]; decide) rfl (by decide) 7 (by decide) rfl (hts (.fieldLink RX1 39 "FallBench$Parser" "at" "I") (by decide +kernel)) rfl hat dX1_takeValue_8 ?_
      refine g_lald (v := J 8 x.1) C (by rw [hw]; decide) rfl (vp_in_nI (N := 1001) (by omega) (by decide)) (by rw [nI_clamp (by omega)]) dX1_takeValue_11 ?_
      refine g_l2i C dX1_takeValue_12 ?_
      refine g_istore_n C V.2.1 dX1_takeValue_13 (by decide) rfl ?_
      refine g_aload_n C dX1_takeValue_14 rfl ?_
      refine g_iload_n C dX1_takeValue_15 rfl ?_
      refine g_callVf C hts V (i := 4) (gX1_takeValue_X1_take) rfl hdX1_take (by decide) (Cf.to (c_X1_take hw hR hX hp hl hTb hk0 hk6) (congrArg (fun z => some (Value.int z)) (show _ = (1 : Int32) by rw [if_pos h0, if_pos h1])) rfl) (by rw [hw]; decide) rfl (by decide) rfl rfl (Nat.le_of_ble_eq_true rfl) dX1_takeValue_16 ?_
      refine g_if_eq (tgt := 26) C dX1_takeValue_19 (by decide) (fun c19 => absurd c19 (by decide)) (fun c19 => ?_)
      refine g_iload_n C dX1_takeValue_22 rfl ?_
      refine g_goto (tgt := 27) C dX1_takeValue_23 (by decide) ?_
      exact g_iret C Rr ⟨rfl, ⟨by rw [t_val, if_pos h0, if_pos h1, en.2.2.2 (by rw [h1]; exact hk23)], rfl⟩⟩ dX1_takeValue_27
    · refine g_aload_n C dX1_takeValue_0 rfl ?_
      refine g_getr (j := 5) C F1 (by rw [hw]; decide) rfl (by decide) 0 (by decide) rfl (hts (.fieldLink RX1 12 "FallBench$Parser" "tokens" "LFallBench$Tokens;") (by decide +kernel)) rfl (hR (4, 0, 5) (by decide)) dX1_takeValue_1 ?_
      refine g_getr (j := 8) C F5 (by rw [hw]; decide) rfl (by decide) 2 (by decide) rfl (hts (.fieldLink RX1 105 "FallBench$Tokens" "values" "[J") (by decide +kernel)) rfl (hR (5, 2, 8) (by decide)) dX1_takeValue_4 ?_
      refine g_aload_n C dX1_takeValue_7 rfl ?_
      refine g_geti (v := nI x.1) C F1 (by rw [hw]; decide) rfl (by decide) 7 (by decide) rfl (hts (.fieldLink RX1 39 "FallBench$Parser" "at" "I") (by decide +kernel)) rfl hat dX1_takeValue_8 ?_
      refine g_lald (v := J 8 x.1) C (by rw [hw]; decide) rfl (vp_in_nI (N := 1001) (by omega) (by decide)) (by rw [nI_clamp (by omega)]) dX1_takeValue_11 ?_
      refine g_l2i C dX1_takeValue_12 ?_
      refine g_istore_n C V.2.1 dX1_takeValue_13 (by decide) rfl ?_
      refine g_aload_n C dX1_takeValue_14 rfl ?_
      refine g_iload_n C dX1_takeValue_15 rfl ?_
      refine g_callVf C hts V (i := 4) (gX1_takeValue_X1_take) rfl hdX1_take (by decide) (Cf.to (c_X1_take hw hR hX hp hl hTb hk0 hk6) (congrArg (fun z => some (Value.int z)) (show _ = (0 : Int32) by rw [if_pos h0, if_neg h1])) rfl) (by rw [hw]; decide) rfl (by decide) rfl rfl (Nat.le_of_ble_eq_true rfl) dX1_takeValue_16 ?_
      refine g_if_eq (tgt := 26) C dX1_takeValue_19 (by decide) (fun c19 => ?_) (fun c19 => absurd c19 (not_not_intro rfl))
      refine g_iconst (v := (-1)) C dX1_takeValue_26 (by decide) ?_
      exact g_iret C Rr ⟨rfl, ⟨by rw [t_val, if_pos h0, if_neg h1], rfl⟩⟩ dX1_takeValue_27
  · refine g_aload_n C dX1_takeValue_0 rfl ?_
    refine g_getr (j := 5) C F1 (by rw [hw]; decide) rfl (by decide) 0 (by decide) rfl (hts (.fieldLink RX1 12 "FallBench$Parser" "tokens" "LFallBench$Tokens;") (by decide +kernel)) rfl (hR (4, 0, 5) (by decide)) dX1_takeValue_1 ?_
    refine g_getr (j := 8) C F5 (by rw [hw]; decide) rfl (by decide) 2 (by decide) rfl (hts (.fieldLink RX1 105 "FallBench$Tokens" "values" "[J") (by decide +kernel)) rfl (hR (5, 2, 8) (by decide)) dX1_takeValue_4 ?_
    refine g_aload_n C dX1_takeValue_7 rfl ?_
    refine g_geti (v := nI x.1) C F1 (by rw [hw]; decide) rfl (by decide) 7 (by decide) rfl (hts (.fieldLink RX1 39 "FallBench$Parser" "at" "I") (by decide +kernel)) rfl hat dX1_takeValue_8 ?_
    refine g_lald (v := J 8 x.1) C (by rw [hw]; decide) rfl (vp_in_nI (N := 1001) (by omega) (by decide)) (by rw [nI_clamp (by omega)]) dX1_takeValue_11 ?_
    refine g_l2i C dX1_takeValue_12 ?_
    refine g_istore_n C V.2.1 dX1_takeValue_13 (by decide) rfl ?_
    refine g_aload_n C dX1_takeValue_14 rfl ?_
    refine g_iload_n C dX1_takeValue_15 rfl ?_
    refine g_callVf C hts V (i := 4) (gX1_takeValue_X1_take) rfl hdX1_take (by decide) (Cf.to (c_X1_take hw hR hX hp hl hTb hk0 hk6) (congrArg (fun z => some (Value.int z)) (show _ = (0 : Int32) by rw [if_neg h0])) rfl) (by rw [hw]; decide) rfl (by decide) rfl rfl (Nat.le_of_ble_eq_true rfl) dX1_takeValue_16 ?_
    refine g_if_eq (tgt := 26) C dX1_takeValue_19 (by decide) (fun c19 => ?_) (fun c19 => absurd c19 (not_not_intro rfl))
    refine g_iconst (v := (-1)) C dX1_takeValue_26 (by decide) ?_
    exact g_iret C Rr ⟨rfl, ⟨by rw [t_val, if_neg h0], rfl⟩⟩ dX1_takeValue_27

set_option maxHeartbeats 4000000 in
set_option maxRecDepth 100000 in
theorem c_X1_takeWanted {l : Launch} {D : va_G} {w : gw} {M : Nat → Nat → Int32} {J : Nat → Nat → Int64} {R : Nat → Nat → Option Nat} (hw : w.1 = 166) (hR : LayC R) {T : List Int32} {x : px} (hX : okX T) (hp : psI M x) (hl : live T x.1) (hTb : tabC T M J) (hJ : namC J) {c : Nat} (hc : c < 80) : Cf l yX1_takeWanted wsX1_takeWanted ({ frames := 2, cells := 0, slots := 0, locals := 43 } : Room) D w [.ref (w.2.1 4), .int (nI c)] M J R none (pm (up2 M 13 c (tP T x.1)) (t_want T x)) (up2 J 12 c (J 8 x.1)) R := by
  obtain ⟨hat, hfk, hfp⟩ := id hp
  have hn := live_le hX.1 hl
  have en := hTb _ hl
  refine Cg.of (own := RX1) (cc := cX1_takeWanted) (maxL := 2) (ret := none) 0 (by decide) rfl rfl (Nat.le_of_ble_eq_true rfl) (fun X C hts V Rr => ?_)
  have F1 : FW X 1 := fun q h => hts q (List.mem_cons_of_mem _ (List.mem_append_left _ (List.mem_append_right _ h)))
  have F5 : FW X 5 := fun q h => hts q (List.mem_cons_of_mem _ (List.mem_append_right _ h))
  show Gj X 0 0 w M J R 0 [some (.ref (w.2.1 4)), some (.int (nI c))] []
  have hp1 : psI (up2 M 13 c (tP T x.1)) x := ⟨by rw [up2_n1 _ _ (by decide)]; exact hat, by rw [up2_n1 _ _ (by decide)]; exact hfk, by rw [up2_n1 _ _ (by decide)]; exact hfp⟩
  have hTb1 : tabC T (up2 M 13 c (tP T x.1)) (up2 J 12 c (J 8 x.1)) := hTb.o (fun y => up2_n1 _ _ (by decide)) (fun y => up2_n1 _ _ (by decide)) (fun y => up2_n1 _ _ (by decide))
  have en1 := hTb1 _ hl
  have hJ1 : namC (up2 J 12 c (J 8 x.1)) := fun k hk => by rw [up2_n1 _ _ (by decide)]; exact hJ k hk
  refine g_aload_n C dX1_takeWanted_0 rfl ?_
  refine g_getr (j := 12) C F1 (by rw [hw]; decide) rfl (by decide) 4 (by decide) rfl (hts (.fieldLink RX1 29 "FallBench$Parser" "wanted" "[J") (by decide +kernel)) rfl (hR (4, 4, 12) (by decide)) dX1_takeWanted_1 ?_
  refine g_iload_n C dX1_takeWanted_4 rfl ?_
  refine g_aload_n C dX1_takeWanted_5 rfl ?_
  refine g_getr (j := 5) C F1 (by rw [hw]; decide) rfl (by decide) 0 (by decide) rfl (hts (.fieldLink RX1 12 "FallBench$Parser" "tokens" "LFallBench$Tokens;") (by decide +kernel)) rfl (hR (4, 0, 5) (by decide)) dX1_takeWanted_6 ?_
  refine g_getr (j := 8) C F5 (by rw [hw]; decide) rfl (by decide) 2 (by decide) rfl (hts (.fieldLink RX1 105 "FallBench$Tokens" "values" "[J") (by decide +kernel)) rfl (hR (5, 2, 8) (by decide)) dX1_takeWanted_9 ?_
  refine g_aload_n C dX1_takeWanted_12 rfl ?_
  refine g_geti (v := nI x.1) C F1 (by rw [hw]; decide) rfl (by decide) 7 (by decide) rfl (hts (.fieldLink RX1 39 "FallBench$Parser" "at" "I") (by decide +kernel)) rfl hat dX1_takeWanted_13 ?_
  refine g_lald (v := J 8 x.1) C (by rw [hw]; decide) rfl (vp_in_nI (N := 1001) (by omega) (by decide)) (by rw [nI_clamp (by omega)]) dX1_takeWanted_16 ?_
  refine g_last C (by rw [hw]; decide) rfl (vp_in_nI (N := 80) hc (by decide)) dX1_takeWanted_17 ?_
  rw [nI_clamp (show c < 2 ^ 31 by omega)]
  refine g_aload_n C dX1_takeWanted_18 rfl ?_
  refine g_getr (j := 13) C F1 (by rw [hw]; decide) rfl (by decide) 5 (by decide) rfl (hts (.fieldLink RX1 32 "FallBench$Parser" "wantedPlaces" "[I") (by decide +kernel)) rfl (hR (4, 5, 13) (by decide)) dX1_takeWanted_19 ?_
  refine g_iload_n C dX1_takeWanted_22 rfl ?_
  refine g_aload_n C dX1_takeWanted_23 rfl ?_
  refine g_getr (j := 5) C F1 (by rw [hw]; decide) rfl (by decide) 0 (by decide) rfl (hts (.fieldLink RX1 12 "FallBench$Parser" "tokens" "LFallBench$Tokens;") (by decide +kernel)) rfl (hR (4, 0, 5) (by decide)) dX1_takeWanted_24 ?_
  refine g_getr (j := 7) C F5 (by rw [hw]; decide) rfl (by decide) 1 (by decide) rfl (hts (.fieldLink RX1 140 "FallBench$Tokens" "places" "[I") (by decide +kernel)) rfl (hR (5, 1, 7) (by decide)) dX1_takeWanted_27 ?_
  refine g_aload_n C dX1_takeWanted_30 rfl ?_
  refine g_geti (v := nI x.1) C F1 (by rw [hw]; decide) rfl (by decide) 7 (by decide) rfl (hts (.fieldLink RX1 39 "FallBench$Parser" "at" "I") (by decide +kernel)) rfl hat dX1_takeWanted_31 ?_
  refine g_iald (v := tP T x.1) C (by rw [hw]; decide) rfl (vp_in_nI (N := 1001) (by omega) (by decide)) (by rw [nI_clamp (by omega)]; exact en.2.1) dX1_takeWanted_34 ?_
  refine g_iast C (by rw [hw]; decide) rfl (vp_in_nI (N := 80) hc (by decide)) dX1_takeWanted_35 ?_
  rw [nI_clamp (show c < 2 ^ 31 by omega)]
  refine g_aload_n C dX1_takeWanted_36 rfl ?_
  refine g_geti (v := x.2.1) C F1 (by rw [hw]; decide) rfl (by decide) 9 (by decide) rfl (hts (.fieldLink RX1 49 "FallBench$Parser" "faultKind" "I") (by decide +kernel)) rfl hp1.2.1 dX1_takeWanted_37 ?_
  refine g_if_ne (tgt := 63) C dX1_takeWanted_40 (by decide) (fun c40 => ?_) (fun c40 => ?_)
  · refine g_aload_n C dX1_takeWanted_63 rfl ?_
    refine g_iconst (v := 1) C dX1_takeWanted_64 (by decide) ?_
    refine g_callVf C hts V (i := 4) (gX1_takeWanted_X1_take) rfl hdX1_take (by decide) (c_X1_take (k := 1) hw hR hX hp1 hl hTb1 (by decide) (by decide)) (by rw [hw]; decide) rfl (by decide) rfl rfl (Nat.le_of_ble_eq_true rfl) dX1_takeWanted_65 ?_
    refine g_pop C dX1_takeWanted_68 rfl ?_
    exact g_vret C Rr ⟨rfl, ⟨rfl, by rw [t_want_ne c40, t_take_ne c40]⟩⟩ dX1_takeWanted_69
  · refine g_aload_n C dX1_takeWanted_43 rfl ?_
    refine g_callVf C hts V (i := 4) (gX1_takeWanted_X1_kindOfToken) rfl hdX1_kindOfToken (by decide) (Cf.to (c_X1_kindOfToken hw hR hp1.1 hn) (congrArg (fun z => some (Value.int z)) en1.1) rfl) (by rw [hw]; decide) rfl (by decide) rfl rfl (Nat.le_of_ble_eq_true rfl) dX1_takeWanted_44 ?_
    refine g_iconst (v := 1) C dX1_takeWanted_47 (by decide) ?_
    refine g_icmp_ne (tgt := 63) C dX1_takeWanted_48 (by decide) (fun c48 => ?_) (fun c48 => ?_)
    · refine g_aload_n C dX1_takeWanted_63 rfl ?_
      refine g_iconst (v := 1) C dX1_takeWanted_64 (by decide) ?_
      refine g_callVf C hts V (i := 4) (gX1_takeWanted_X1_take) rfl hdX1_take (by decide) (c_X1_take (k := 1) hw hR hX hp1 hl hTb1 (by decide) (by decide)) (by rw [hw]; decide) rfl (by decide) rfl rfl (Nat.le_of_ble_eq_true rfl) dX1_takeWanted_65 ?_
      refine g_pop C dX1_takeWanted_68 rfl ?_
      exact g_vret C Rr ⟨rfl, ⟨rfl, by unfold t_want; rw [if_pos c40, if_neg (fun z => c48 z.1), t_take_bad c40 c48]⟩⟩ dX1_takeWanted_69
    · refine g_aload_n C dX1_takeWanted_51 rfl ?_
      refine g_callVf C hts V (i := 4) (gX1_takeWanted_X1_labelIsNext) rfl hdX1_labelIsNext (by decide) (Cf.to (c_X1_labelIsNext hw hR hp1.1 hn) (congrArg (fun z => some (Value.int z)) (lab_is hJ1 en1)) rfl) (by rw [hw]; decide) rfl (by decide) rfl rfl (Nat.le_of_ble_eq_true rfl) dX1_takeWanted_52 ?_
      refine g_if_ne (tgt := 63) C dX1_takeWanted_55 (by decide) (fun c55 => ?_) (fun c55 => ?_)
      · refine g_aload_n C dX1_takeWanted_63 rfl ?_
        refine g_iconst (v := 1) C dX1_takeWanted_64 (by decide) ?_
        refine g_callVf C hts V (i := 4) (gX1_takeWanted_X1_take) rfl hdX1_take (by decide) (c_X1_take (k := 1) hw hR hX hp1 hl hTb1 (by decide) (by decide)) (by rw [hw]; decide) rfl (by decide) rfl rfl (Nat.le_of_ble_eq_true rfl) dX1_takeWanted_65 ?_
        refine g_pop C dX1_takeWanted_68 rfl ?_
        exact g_vret C Rr ⟨rfl, ⟨rfl, by unfold t_want; rw [if_pos c40, if_pos (Classical.byContradiction (fun z => c55 (if_neg z))), t_take_ok c40 c48]⟩⟩ dX1_takeWanted_69
      · refine g_aload_n C dX1_takeWanted_58 rfl ?_
        refine g_iconst (v := 2) C dX1_takeWanted_59 (by decide) ?_
        refine g_callVf C hts V (i := 4) (gX1_takeWanted_X1_setFault) rfl hdX1_setFault (by decide) (c_X1_setFault hw hR hp1.1 hn) (by rw [hw]; decide) rfl (by decide) rfl rfl (Nat.le_of_ble_eq_true rfl) dX1_takeWanted_60 ?_
        rw [pm_flt (k := 2) hp1 en1.2.1]
        refine g_aload_n C dX1_takeWanted_63 rfl ?_
        refine g_iconst (v := 1) C dX1_takeWanted_64 (by decide) ?_
        refine g_callVf C hts V (i := 4) (gX1_takeWanted_X1_take) rfl hdX1_take (by decide) (Cf.to (c_X1_take (k := 1) (x := t_flt T 2 x) hw hR hX (pm_I _ _) hl (hTb1.pm _) (by decide) (by decide)) rfl rfl) (by rw [hw]; decide) rfl (by decide) rfl rfl (Nat.le_of_ble_eq_true rfl) dX1_takeWanted_65 ?_
        refine g_pop C dX1_takeWanted_68 rfl ?_
        exact g_vret C Rr ⟨rfl, ⟨rfl, by unfold t_want; rw [if_pos c40, if_neg (fun z => absurd (c55.symm.trans (if_pos z)) (by decide)), t_take_ne (x := t_flt T 2 x) (by show ¬ (2 : Int32) = 0; decide), t_bad, if_neg (by rw [c48]; decide), pm_pm]⟩⟩ dX1_takeWanted_69
