/-! HEAPS: heaps, heap, heapOf of the reference -/
set_option maxHeartbeats 4000000 in
set_option maxRecDepth 100000 in
theorem c_X8_heaps_no {l : Launch} {D : va_G} {w : gw} {M : Nat → Nat → Int32} {J : Nat → Nat → Int64} {R : Nat → Nat → Option Nat} (hw : w.1 = 166) (hR : LayM R) {a : Int32} (hno : isSh a = 0) : Cf l yX8_heaps wsX8_heaps ({ frames := 4, cells := 0, slots := 0, locals := 98 } : Room) D w [.ref (w.2.1 134), .int a] M J R (some (.int (-1))) M J R := by
  refine Cg.of (own := RX8) (cc := cX8_heaps) (maxL := 2) (ret := (some .int)) 0 (by decide) rfl rfl (Nat.le_of_ble_eq_true rfl) (fun X C hts V Rr => ?_)
  have F8 : FW X 8 := fun q h => hts q (List.mem_cons_of_mem _ (List.mem_append_right _ h))
  show Gj X 0 0 w M J R 0 [some (.ref (w.2.1 134)), some (.int a)] []
  refine g_iload_n C dX8_heaps_0 rfl ?_
  refine g_callSf C hts V (gX8_heaps_X8_isShelf) rfl hdX8_isShelf (by decide) c_X8_isShelf rfl rfl (Nat.le_of_ble_eq_true rfl) dX8_heaps_1 ?_
  refine g_if_ne (tgt := 9) C dX8_heaps_4 (by decide) (fun c4 => absurd c4 (not_not_intro hno)) (fun c4 => ?_)
  refine g_iconst (v := (-1)) C dX8_heaps_7 (by decide) ?_
  exact g_iret C Rr ⟨rfl, ⟨rfl, rfl⟩⟩ dX8_heaps_8

set_option maxHeartbeats 4000000 in
set_option maxRecDepth 100000 in
theorem c_X8_heaps {l : Launch} {D : va_G} {w : gw} {M : Nat → Nat → Int32} {J : Nat → Nat → Int64} {R : Nat → Nat → Option Nat} (hw : w.1 = 166) (hR : LayM R) {a n : Nat} {P : List act4} {Is : Nat → List Int32} (ha : a < 3) (hn : n ≤ 30) (h9 : M 134 23 = nI n) (hP : progN M a P) (hL : okL2 P) (hA : ∀ i, i < n → inAtM M i (Is i)) (hB : ∀ i, i < n → okI (Is i)) : Ct l yX8_heaps wsX8_heaps ({ frames := 4, cells := 0, slots := 0, locals := 98 } : Room) D w [.ref (w.2.1 134), .int (nI a)] (M, J, R) (fun v u => v = some (.int (nI (hps P Is n).1)) ∧ u.2.1 = J ∧ u.2.2 = R ∧ ∀ x y, ¬ (x = 134 ∧ (29 ≤ y ∧ y ≤ 38 ∨ y = 50)) → ¬ (148 ≤ x ∧ x ≤ 152) → ¬ (158 ≤ x ∧ x ≤ 162) → u.1 x y = M x y) := by
  refine Cg.of (own := RX8) (cc := cX8_heaps) (maxL := 2) (ret := (some .int)) 0 (by decide) rfl rfl (Nat.le_of_ble_eq_true rfl) (fun X C hts V Rr => ?_)
  have F8 : FW X 8 := fun q h => hts q (List.mem_cons_of_mem _ (List.mem_append_right _ h))
  show Gj X 0 0 w M J R 0 [some (.ref (w.2.1 134)), some (.int (nI a))] []
  refine g_iload_n C dX8_heaps_0 rfl ?_
  refine g_callSf C hts V (gX8_heaps_X8_isShelf) rfl hdX8_isShelf (by decide) c_X8_isShelf rfl rfl (Nat.le_of_ble_eq_true rfl) dX8_heaps_1 ?_
  refine g_if_ne (tgt := 9) C dX8_heaps_4 (by decide) (fun c4 => ?_) (fun c4 => absurd c4 (isSh_n ha))
  refine g_aload_n C dX8_heaps_9 rfl ?_
  refine g_iload_n C dX8_heaps_10 rfl ?_
  refine g_callVt C hts V (i := 134) (gX8_heaps_X8_lookAtHeaps) rfl hdX8_lookAtHeaps (by decide) (c_X8_lookAtHeaps hw hR ha hn h9 hP hL hA hB) (by rw [hw]; decide) rfl (by decide) rfl rfl (Nat.le_of_ble_eq_true rfl) dX8_heaps_11 (fun v M1 J1 R1 h => ?_)
  obtain ⟨h0, hJ, hR1, hs, hF⟩ := h
  subst h0
  have hJ := Eq.symm hJ
  subst hJ
  have hR1 := Eq.symm hR1
  subst hR1
  try dsimp only at hs hF
  obtain ⟨t1, t2, t3⟩ := hs
  show Gj X 0 0 w M1 J R 14 [some (.ref (w.2.1 134)), some (.int (nI a))] []
  refine g_aload_n C dX8_heaps_14 rfl ?_
  refine g_geti (v := nI (hps P Is n).1) C F8 (by rw [hw]; decide) rfl (by decide) 50 (by decide) rfl (hts (.fieldLink RX8 292 "FallBenchModel" "heapMany" "I") (by decide +kernel)) rfl t1 dX8_heaps_15 ?_
  exact g_iret C Rr ⟨rfl, ⟨rfl, rfl, rfl, hF⟩⟩ dX8_heaps_18

set_option maxHeartbeats 4000000 in
set_option maxRecDepth 100000 in
theorem c_X8_heapOf_no {l : Launch} {D : va_G} {w : gw} {M : Nat → Nat → Int32} {J : Nat → Nat → Int64} {R : Nat → Nat → Option Nat} (hw : w.1 = 166) (hR : LayM R) {a i : Int32} (hno : isSh a = 0 ∨ isIn (M 134 23) i = 0) : Cf l yX8_heapOf wsX8_heapOf ({ frames := 4, cells := 0, slots := 0, locals := 98 } : Room) D w [.ref (w.2.1 134), .int a, .int i] M J R (some (.int (-1))) M J R := by
  refine Cg.of (own := RX8) (cc := cX8_heapOf) (maxL := 3) (ret := (some .int)) 0 (by decide) rfl rfl (Nat.le_of_ble_eq_true rfl) (fun X C hts V Rr => ?_)
  have F8 : FW X 8 := fun q h => hts q (List.mem_cons_of_mem _ (List.mem_append_right _ h))
  show Gj X 0 0 w M J R 0 [some (.ref (w.2.1 134)), some (.int a), some (.int i)] []
  refine g_iload_n C dX8_heapOf_0 rfl ?_
  refine g_callSf C hts V (gX8_heapOf_X8_isShelf) rfl hdX8_isShelf (by decide) c_X8_isShelf rfl rfl (Nat.le_of_ble_eq_true rfl) dX8_heapOf_1 ?_
  refine g_if_eq (tgt := 15) C dX8_heapOf_4 (by decide) (fun c4 => ?_) (fun c4 => ?_)
  · refine g_iconst (v := (-1)) C dX8_heapOf_15 (by decide) ?_
    exact g_iret C Rr ⟨rfl, ⟨rfl, rfl⟩⟩ dX8_heapOf_16
  · refine g_aload_n C dX8_heapOf_7 rfl ?_
    refine g_iload_n C dX8_heapOf_8 rfl ?_
    refine g_callVf C hts V (i := 134) (gX8_heapOf_X8_isInput) rfl hdX8_isInput (by decide) (c_X8_isInput hw hR) (by rw [hw]; decide) rfl (by decide) rfl rfl (Nat.le_of_ble_eq_true rfl) dX8_heapOf_9 ?_
    refine g_if_ne (tgt := 17) C dX8_heapOf_12 (by decide) (fun c12 => ?_) (fun c12 => ?_)
    · exact absurd hno (fun z => by rcases z with z | z; exact c4 z; exact c12 z)
    · refine g_iconst (v := (-1)) C dX8_heapOf_15 (by decide) ?_
      exact g_iret C Rr ⟨rfl, ⟨rfl, rfl⟩⟩ dX8_heapOf_16

set_option maxHeartbeats 4000000 in
set_option maxRecDepth 100000 in
theorem c_X8_heapOf {l : Launch} {D : va_G} {w : gw} {M : Nat → Nat → Int32} {J : Nat → Nat → Int64} {R : Nat → Nat → Option Nat} (hw : w.1 = 166) (hR : LayM R) {a n : Nat} {P : List act4} {Is : Nat → List Int32} (ha : a < 3) (hn : n ≤ 30) (h9 : M 134 23 = nI n) (hP : progN M a P) (hL : okL2 P) (hA : ∀ i, i < n → inAtM M i (Is i)) (hB : ∀ i, i < n → okI (Is i)) {i : Nat} (hi : i < n) : Ct l yX8_heapOf wsX8_heapOf ({ frames := 4, cells := 0, slots := 0, locals := 98 } : Room) D w [.ref (w.2.1 134), .int (nI a), .int (nI i)] (M, J, R) (fun v u => v = some (.int ((hps P Is n).2.2.2 i)) ∧ u.2.1 = J ∧ u.2.2 = R ∧ ∀ x y, ¬ (x = 134 ∧ (29 ≤ y ∧ y ≤ 38 ∨ y = 50)) → ¬ (148 ≤ x ∧ x ≤ 152) → ¬ (158 ≤ x ∧ x ≤ 162) → u.1 x y = M x y) := by
  refine Cg.of (own := RX8) (cc := cX8_heapOf) (maxL := 3) (ret := (some .int)) 0 (by decide) rfl rfl (Nat.le_of_ble_eq_true rfl) (fun X C hts V Rr => ?_)
  have F8 : FW X 8 := fun q h => hts q (List.mem_cons_of_mem _ (List.mem_append_right _ h))
  show Gj X 0 0 w M J R 0 [some (.ref (w.2.1 134)), some (.int (nI a)), some (.int (nI i))] []
  refine g_iload_n C dX8_heapOf_0 rfl ?_
  refine g_callSf C hts V (gX8_heapOf_X8_isShelf) rfl hdX8_isShelf (by decide) c_X8_isShelf rfl rfl (Nat.le_of_ble_eq_true rfl) dX8_heapOf_1 ?_
  refine g_if_eq (tgt := 15) C dX8_heapOf_4 (by decide) (fun c4 => absurd c4 (isSh_n ha)) (fun c4 => ?_)
  refine g_aload_n C dX8_heapOf_7 rfl ?_
  refine g_iload_n C dX8_heapOf_8 rfl ?_
  refine g_callVf C hts V (i := 134) (gX8_heapOf_X8_isInput) rfl hdX8_isInput (by decide) (c_X8_isInput hw hR) (by rw [hw]; decide) rfl (by decide) rfl rfl (Nat.le_of_ble_eq_true rfl) dX8_heapOf_9 ?_
  refine g_if_ne (tgt := 17) C dX8_heapOf_12 (by decide) (fun c12 => ?_) (fun c12 => absurd c12 (by rw [h9]; exact isIn_n hn hi))
  refine g_aload_n C dX8_heapOf_17 rfl ?_
  refine g_iload_n C dX8_heapOf_18 rfl ?_
  refine g_callVt C hts V (i := 134) (gX8_heapOf_X8_lookAtHeaps) rfl hdX8_lookAtHeaps (by decide) (c_X8_lookAtHeaps hw hR ha hn h9 hP hL hA hB) (by rw [hw]; decide) rfl (by decide) rfl rfl (Nat.le_of_ble_eq_true rfl) dX8_heapOf_19 (fun v M1 J1 R1 h => ?_)
  obtain ⟨h0, hJ, hR1, hs, hF⟩ := h
  subst h0
  have hJ := Eq.symm hJ
  subst hJ
  have hR1 := Eq.symm hR1
  subst hR1
  try dsimp only at hs hF
  obtain ⟨t1, t2, t3⟩ := hs
  show Gj X 0 0 w M1 J R 22 [some (.ref (w.2.1 134)), some (.int (nI a)), some (.int (nI i))] []
  refine g_aload_n C dX8_heapOf_22 rfl ?_
  refine g_getr (j := 161) C F8 (by rw [hw]; decide) rfl (by decide) 48 (by decide) rfl (hts (.fieldLink RX8 94 "FallBenchModel" "cHeap" "[I") (by decide +kernel)) rfl (hR (48, 161) (by decide)) dX8_heapOf_23 ?_
  refine g_iload_n C dX8_heapOf_26 rfl ?_
  refine g_iald (v := (hps P Is n).2.2.2 i) C (by rw [hw]; decide) rfl (vp_in_nI (N := 30) (by omega) (by decide)) (by rw [nI_clamp (by omega)]; exact (t2 i hi).2.2.2) dX8_heapOf_27 ?_
  exact g_iret C Rr ⟨rfl, ⟨rfl, rfl, rfl, hF⟩⟩ dX8_heapOf_28

set_option maxHeartbeats 4000000 in
set_option maxRecDepth 100000 in
theorem c_X8_heap_no {l : Launch} {D : va_G} {w : gw} {M : Nat → Nat → Int32} {J : Nat → Nat → Int64} {R : Nat → Nat → Option Nat} (hw : w.1 = 166) (hR : LayM R) {a k x : Int32} (hno : isSh a = 0) : Cf l yX8_heap wsX8_heap ({ frames := 4, cells := 0, slots := 0, locals := 98 } : Room) D w [.ref (w.2.1 134), .int a, .int k, .int x] M J R (some (.int (-1))) M J R := by
  refine Cg.of (own := RX8) (cc := cX8_heap) (maxL := 6) (ret := (some .int)) 2 (by decide) rfl rfl (Nat.le_of_ble_eq_true rfl) (fun X C hts V Rr => ?_)
  have F8 : FW X 8 := fun q h => hts q (List.mem_cons_of_mem _ (List.mem_append_right _ h))
  show Gj X 0 0 w M J R 0 [some (.ref (w.2.1 134)), some (.int a), some (.int k), some (.int x), none, none] []
  refine g_iload_n C dX8_heap_0 rfl ?_
  refine g_callSf C hts V (gX8_heap_X8_isShelf) rfl hdX8_isShelf (by decide) c_X8_isShelf rfl rfl (Nat.le_of_ble_eq_true rfl) dX8_heap_1 ?_
  refine g_if_ne (tgt := 9) C dX8_heap_4 (by decide) (fun c4 => absurd c4 (not_not_intro hno)) (fun c4 => ?_)
  refine g_iconst (v := (-1)) C dX8_heap_7 (by decide) ?_
  exact g_iret C Rr ⟨rfl, ⟨rfl, rfl⟩⟩ dX8_heap_8

set_option maxHeartbeats 4000000 in
set_option maxRecDepth 100000 in
theorem c_X8_heap {l : Launch} {D : va_G} {w : gw} {M : Nat → Nat → Int32} {J : Nat → Nat → Int64} {R : Nat → Nat → Option Nat} (hw : w.1 = 166) (hR : LayM R) {a n : Nat} {P : List act4} {Is : Nat → List Int32} (ha : a < 3) (hn : n ≤ 30) (h9 : M 134 23 = nI n) (hP : progN M a P) (hL : okL2 P) (hA : ∀ i, i < n → inAtM M i (Is i)) (hB : ∀ i, i < n → okI (Is i)) {k x : Int32} : Ct l yX8_heap wsX8_heap ({ frames := 4, cells := 0, slots := 0, locals := 98 } : Room) D w [.ref (w.2.1 134), .int (nI a), .int k, .int x] (M, J, R) (fun v u => v = some (.int (hp_ans (cE P Is) (cA P Is) (cM P Is) (hps P Is n) k x)) ∧ u.2.1 = J ∧ u.2.2 = R ∧ ∀ x y, ¬ (x = 134 ∧ (29 ≤ y ∧ y ≤ 38 ∨ y = 50)) → ¬ (148 ≤ x ∧ x ≤ 152) → ¬ (158 ≤ x ∧ x ≤ 162) → u.1 x y = M x y) := by
  refine Cg.of (own := RX8) (cc := cX8_heap) (maxL := 6) (ret := (some .int)) 2 (by decide) rfl rfl (Nat.le_of_ble_eq_true rfl) (fun X C hts V Rr => ?_)
  have F8 : FW X 8 := fun q h => hts q (List.mem_cons_of_mem _ (List.mem_append_right _ h))
  show Gj X 0 0 w M J R 0 [some (.ref (w.2.1 134)), some (.int (nI a)), some (.int k), some (.int x), none, none] []
  have hinv := hInv.all (E := cE P Is) (A := cA P Is) (C := cM P Is) n hn
  have hle : (hps P Is n).1 ≤ n := hAll_le (cE P Is) (cA P Is) (cM P Is) n
  have back : ∀ M1, nIs (cE P Is) (cA P Is) (cM P Is) M1 n (hps P Is n) → (∀ x y, ¬ (x = 134 ∧ (29 ≤ y ∧ y ≤ 38 ∨ y = 50)) → ¬ (148 ≤ x ∧ x ≤ 152) → ¬ (158 ≤ x ∧ x ≤ 162) → M1 x y = M x y) → Gj X 0 0 w M1 J R 14 [some (.ref (w.2.1 134)), some (.int (nI a)), some (.int k), some (.int x), none, none] [] := by
    intro M1 hs hF
    obtain ⟨t1, t2, t3⟩ := hs
    have loop : ¬ k < 0 → k < nI (hps P Is n).1 → ∀ dd j, j + dd = n → Gj X 0 0 w M1 J R 34 [some (.ref (w.2.1 134)), some (.int (nI a)), some (.int k), some (.int x), some (.int (nI (cntH (hps P Is n).2.2.2 k j))), some (.int (nI j))] [] := by
      intro c15 c23 dd
      induction dd with
      | zero =>
        intro j hj
        obtain rfl : j = n := by omega
        have hk9 : vp_in k (hps P Is j).1 := inOf (by omega) c15 (nlt_nle c23)
        obtain ⟨kk, hkk, rfl⟩ := vp_in_of hk9 (by omega)
        have ht := t3 kk hkk
        have l1 : (hps P Is j).2.1 kk < j := (hinv.2.1 kk hkk).1
        obtain ⟨u1, u2, u3, u4⟩ := t2 _ l1
        have hz := hinv.2.2.2.2.2 kk hkk
        have ekk : (nI kk).toNatClampNeg = kk := nI_clamp (by omega)
        refine g_iload C dX8_heap_34 rfl ?_
        refine g_aload_n C dX8_heap_36 rfl ?_
        refine g_geti (v := nI j) C F8 (by rw [hw]; decide) rfl (by decide) 23 (by decide) rfl (hts (.fieldLink RX8 225 "FallBenchModel" "inputMany" "I") (by decide +kernel)) rfl (by rw [hF 134 23 (by omega) (by omega) (by omega)]; exact h9) dX8_heap_37 ?_
        refine g_icmp_ge (tgt := 70) C dX8_heap_40 (by decide) (fun c40 => ?_) (fun c40 => absurd c40 (not_not_intro (nI_le (Nat.le_refl _) (by omega))))
        refine g_iload_n C dX8_heap_70 rfl ?_
        by_cases s71_0 : x = 0
        · refine g_tableIn (tgt := 104) C dX8_heap_71 (by rw [s71_0]; decide) (by rw [s71_0]; decide) (by rw [s71_0]; rfl) (by decide) ?_
          refine g_aload_n C dX8_heap_104 rfl ?_
          refine g_getr (j := 162) C F8 (by rw [hw]; decide) rfl (by decide) 49 (by decide) rfl (hts (.fieldLink RX8 97 "FallBenchModel" "hFirst" "[I") (by decide +kernel)) rfl (hR (49, 162) (by decide)) dX8_heap_105 ?_
          refine g_iload_n C dX8_heap_108 rfl ?_
          refine g_iald (v := nI ((hps P Is j).2.1 kk)) C (by rw [hw]; decide) rfl (vp_in_nI (N := 30) (by omega) (by decide)) (by rw [ekk]; exact ht) dX8_heap_109 ?_
          exact g_iret C Rr ⟨rfl, ⟨by rw [hp_ans, if_neg c15, if_pos c23]; simp only [ekk, hz, if_pos s71_0], rfl, rfl, hF⟩⟩ dX8_heap_110
        by_cases s71_1 : x = 1
        · refine g_tableIn (tgt := 111) C dX8_heap_71 (by rw [s71_1]; decide) (by rw [s71_1]; decide) (by rw [s71_1]; rfl) (by decide) ?_
          refine g_iload C dX8_heap_111 rfl ?_
          exact g_iret C Rr ⟨rfl, ⟨by rw [hp_ans, if_neg c15, if_pos c23]; simp only [ekk, hz, if_neg s71_0, if_pos s71_1], rfl, rfl, hF⟩⟩ dX8_heap_113
        by_cases s71_2 : x = 2
        · refine g_tableIn (tgt := 114) C dX8_heap_71 (by rw [s71_2]; decide) (by rw [s71_2]; decide) (by rw [s71_2]; rfl) (by decide) ?_
          refine g_aload_n C dX8_heap_114 rfl ?_
          refine g_getr (j := 158) C F8 (by rw [hw]; decide) rfl (by decide) 45 (by decide) rfl (hts (.fieldLink RX8 85 "FallBenchModel" "cEnd" "[I") (by decide +kernel)) rfl (hR (45, 158) (by decide)) dX8_heap_115 ?_
          refine g_aload_n C dX8_heap_118 rfl ?_
          refine g_getr (j := 162) C F8 (by rw [hw]; decide) rfl (by decide) 49 (by decide) rfl (hts (.fieldLink RX8 97 "FallBenchModel" "hFirst" "[I") (by decide +kernel)) rfl (hR (49, 162) (by decide)) dX8_heap_119 ?_
          refine g_iload_n C dX8_heap_122 rfl ?_
          refine g_iald (v := nI ((hps P Is j).2.1 kk)) C (by rw [hw]; decide) rfl (vp_in_nI (N := 30) (by omega) (by decide)) (by rw [ekk]; exact ht) dX8_heap_123 ?_
          refine g_iald (v := cE P Is ((hps P Is j).2.1 kk)) C (by rw [hw]; decide) rfl (vp_in_nI (N := 30) (by omega) (by decide)) (by rw [nI_clamp (by omega)]; exact u1) dX8_heap_124 ?_
          exact g_iret C Rr ⟨rfl, ⟨by rw [hp_ans, if_neg c15, if_pos c23]; simp only [ekk, hz, if_neg s71_0, if_neg s71_1, if_pos s71_2], rfl, rfl, hF⟩⟩ dX8_heap_125
        by_cases s71_3 : x = 3
        · refine g_tableIn (tgt := 126) C dX8_heap_71 (by rw [s71_3]; decide) (by rw [s71_3]; decide) (by rw [s71_3]; rfl) (by decide) ?_
          refine g_aload_n C dX8_heap_126 rfl ?_
          refine g_getr (j := 159) C F8 (by rw [hw]; decide) rfl (by decide) 46 (by decide) rfl (hts (.fieldLink RX8 88 "FallBenchModel" "cAct" "[I") (by decide +kernel)) rfl (hR (46, 159) (by decide)) dX8_heap_127 ?_
          refine g_aload_n C dX8_heap_130 rfl ?_
          refine g_getr (j := 162) C F8 (by rw [hw]; decide) rfl (by decide) 49 (by decide) rfl (hts (.fieldLink RX8 97 "FallBenchModel" "hFirst" "[I") (by decide +kernel)) rfl (hR (49, 162) (by decide)) dX8_heap_131 ?_
          refine g_iload_n C dX8_heap_134 rfl ?_
          refine g_iald (v := nI ((hps P Is j).2.1 kk)) C (by rw [hw]; decide) rfl (vp_in_nI (N := 30) (by omega) (by decide)) (by rw [ekk]; exact ht) dX8_heap_135 ?_
          refine g_iald (v := cA P Is ((hps P Is j).2.1 kk)) C (by rw [hw]; decide) rfl (vp_in_nI (N := 30) (by omega) (by decide)) (by rw [nI_clamp (by omega)]; exact u2) dX8_heap_136 ?_
          exact g_iret C Rr ⟨rfl, ⟨by rw [hp_ans, if_neg c15, if_pos c23]; simp only [ekk, hz, if_neg s71_0, if_neg s71_1, if_neg s71_2, if_pos s71_3], rfl, rfl, hF⟩⟩ dX8_heap_137
        by_cases s71_4 : x = 4
        · refine g_tableIn (tgt := 138) C dX8_heap_71 (by rw [s71_4]; decide) (by rw [s71_4]; decide) (by rw [s71_4]; rfl) (by decide) ?_
          refine g_aload_n C dX8_heap_138 rfl ?_
          refine g_getr (j := 160) C F8 (by rw [hw]; decide) rfl (by decide) 47 (by decide) rfl (hts (.fieldLink RX8 91 "FallBenchModel" "cMaker" "[I") (by decide +kernel)) rfl (hR (47, 160) (by decide)) dX8_heap_139 ?_
          refine g_aload_n C dX8_heap_142 rfl ?_
          refine g_getr (j := 162) C F8 (by rw [hw]; decide) rfl (by decide) 49 (by decide) rfl (hts (.fieldLink RX8 97 "FallBenchModel" "hFirst" "[I") (by decide +kernel)) rfl (hR (49, 162) (by decide)) dX8_heap_143 ?_
          refine g_iload_n C dX8_heap_146 rfl ?_
          refine g_iald (v := nI ((hps P Is j).2.1 kk)) C (by rw [hw]; decide) rfl (vp_in_nI (N := 30) (by omega) (by decide)) (by rw [ekk]; exact ht) dX8_heap_147 ?_
          refine g_iald (v := cM P Is ((hps P Is j).2.1 kk)) C (by rw [hw]; decide) rfl (vp_in_nI (N := 30) (by omega) (by decide)) (by rw [nI_clamp (by omega)]; exact u3) dX8_heap_148 ?_
          exact g_iret C Rr ⟨rfl, ⟨by rw [hp_ans, if_neg c15, if_pos c23]; simp only [ekk, hz, if_neg s71_0, if_neg s71_1, if_neg s71_2, if_neg s71_3, if_pos s71_4], rfl, rfl, hF⟩⟩ dX8_heap_149
        refine g_tableOut (tgt := 150) C dX8_heap_71 (by have e0 := lv_neT s71_0 (a := 0) (by decide); have e1 := lv_neT s71_1 (a := 1) (by decide); have e2 := lv_neT s71_2 (a := 2) (by decide); have e3 := lv_neT s71_3 (a := 3) (by decide); have e4 := lv_neT s71_4 (a := 4) (by decide); omega) (by decide) ?_
        refine g_iconst (v := (-1)) C dX8_heap_150 (by decide) ?_
        exact g_iret C Rr ⟨rfl, ⟨by rw [hp_ans, if_neg c15, if_pos c23]; simp only [ekk, hz, if_neg s71_0, if_neg s71_1, if_neg s71_2, if_neg s71_3, if_neg s71_4], rfl, rfl, hF⟩⟩ dX8_heap_151
      | succ dd ih =>
        intro j hj
        refine g_iload C dX8_heap_34 rfl ?_
        refine g_aload_n C dX8_heap_36 rfl ?_
        refine g_geti (v := nI n) C F8 (by rw [hw]; decide) rfl (by decide) 23 (by decide) rfl (hts (.fieldLink RX8 225 "FallBenchModel" "inputMany" "I") (by decide +kernel)) rfl (by rw [hF 134 23 (by omega) (by omega) (by omega)]; exact h9) dX8_heap_37 ?_
        refine g_icmp_ge (tgt := 70) C dX8_heap_40 (by decide) (fun c40 => absurd c40 (nI_ge (by omega) (by omega))) (fun c40 => ?_)
        refine g_iload C dX8_heap_43 rfl ?_
        refine g_aload_n C dX8_heap_45 rfl ?_
        refine g_getr (j := 161) C F8 (by rw [hw]; decide) rfl (by decide) 48 (by decide) rfl (hts (.fieldLink RX8 94 "FallBenchModel" "cHeap" "[I") (by decide +kernel)) rfl (hR (48, 161) (by decide)) dX8_heap_46 ?_
        refine g_iload C dX8_heap_49 rfl ?_
        refine g_iald (v := (hps P Is n).2.2.2 j) C (by rw [hw]; decide) rfl (vp_in_nI (N := 30) (by omega) (by decide)) (by rw [nI_clamp (by omega)]; exact (t2 j (by omega)).2.2.2) dX8_heap_51 ?_
        refine g_iload_n C dX8_heap_52 rfl ?_
        refine g_icmp_ne (tgt := 60) C dX8_heap_53 (by decide) (fun c53 => ?_) (fun c53 => ?_)
        · refine g_iconst (v := 0) C dX8_heap_60 (by decide) ?_
          refine g_iadd C dX8_heap_61 ?_
          refine g_istore C V.2.1 dX8_heap_62 (by decide) rfl ?_
          refine g_iinc (v := nI (j + 1)) C V.2.1 dX8_heap_64 rfl (nI_succ j).symm (by decide) rfl ?_
          refine g_goto (tgt := 34) C dX8_heap_67 (by decide) ?_
          refine Gj_lv (lv' := [some (.ref (w.2.1 134)), some (.int (nI a)), some (.int k), some (.int x), some (.int (nI (cntH (hps P Is n).2.2.2 k (j + 1)))), some (.int (nI (j + 1)))]) (by simp only [cntH, if_neg c53]; rw [← nI_add (cntH (hps P Is n).2.2.2 k j) 0]; rfl) ?_
          exact ih (j + 1) (by omega)
        · refine g_iconst (v := 1) C dX8_heap_56 (by decide) ?_
          refine g_goto (tgt := 61) C dX8_heap_57 (by decide) ?_
          refine g_iadd C dX8_heap_61 ?_
          refine g_istore C V.2.1 dX8_heap_62 (by decide) rfl ?_
          refine g_iinc (v := nI (j + 1)) C V.2.1 dX8_heap_64 rfl (nI_succ j).symm (by decide) rfl ?_
          refine g_goto (tgt := 34) C dX8_heap_67 (by decide) ?_
          refine Gj_lv (lv' := [some (.ref (w.2.1 134)), some (.int (nI a)), some (.int k), some (.int x), some (.int (nI (cntH (hps P Is n).2.2.2 k (j + 1)))), some (.int (nI (j + 1)))]) (by simp only [cntH, if_pos c53]; rw [← nI_add (cntH (hps P Is n).2.2.2 k j) 1]; rfl) ?_
          exact ih (j + 1) (by omega)
    refine g_iload_n C dX8_heap_14 rfl ?_
    refine g_if_lt (tgt := 26) C dX8_heap_15 (by decide) (fun c15 => ?_) (fun c15 => ?_)
    · refine g_iconst (v := (-1)) C dX8_heap_26 (by decide) ?_
      exact g_iret C Rr ⟨rfl, ⟨by simp only [hp_ans, if_pos c15], rfl, rfl, hF⟩⟩ dX8_heap_27
    · refine g_iload_n C dX8_heap_18 rfl ?_
      refine g_aload_n C dX8_heap_19 rfl ?_
      refine g_geti (v := nI (hps P Is n).1) C F8 (by rw [hw]; decide) rfl (by decide) 50 (by decide) rfl (hts (.fieldLink RX8 292 "FallBenchModel" "heapMany" "I") (by decide +kernel)) rfl t1 dX8_heap_20 ?_
      refine g_icmp_lt (tgt := 28) C dX8_heap_23 (by decide) (fun c23 => ?_) (fun c23 => ?_)
      · refine g_iconst (v := 0) C dX8_heap_28 (by decide) ?_
        refine g_istore C V.2.1 dX8_heap_29 (by decide) rfl ?_
        refine g_iconst (v := 0) C dX8_heap_31 (by decide) ?_
        refine g_istore C V.2.1 dX8_heap_32 (by decide) rfl ?_
        exact loop c15 c23 n 0 (by omega)
      · refine g_iconst (v := (-1)) C dX8_heap_26 (by decide) ?_
        exact g_iret C Rr ⟨rfl, ⟨by simp only [hp_ans, if_neg c15, if_neg c23], rfl, rfl, hF⟩⟩ dX8_heap_27
  refine g_iload_n C dX8_heap_0 rfl ?_
  refine g_callSf C hts V (gX8_heap_X8_isShelf) rfl hdX8_isShelf (by decide) c_X8_isShelf rfl rfl (Nat.le_of_ble_eq_true rfl) dX8_heap_1 ?_
  refine g_if_ne (tgt := 9) C dX8_heap_4 (by decide) (fun c4 => ?_) (fun c4 => absurd c4 (isSh_n ha))
  refine g_aload_n C dX8_heap_9 rfl ?_
  refine g_iload_n C dX8_heap_10 rfl ?_
  refine g_callVt C hts V (i := 134) (gX8_heap_X8_lookAtHeaps) rfl hdX8_lookAtHeaps (by decide) (c_X8_lookAtHeaps hw hR ha hn h9 hP hL hA hB) (by rw [hw]; decide) rfl (by decide) rfl rfl (Nat.le_of_ble_eq_true rfl) dX8_heap_11 (fun v M1 J1 R1 h => ?_)
  obtain ⟨h0, hJ, hR1, hs, hF⟩ := h
  subst h0
  have hJ := Eq.symm hJ
  subst hJ
  have hR1 := Eq.symm hR1
  subst hR1
  exact back M1 hs hF
