/-! ruled, nearest, nearestByte of the class -/
set_option maxHeartbeats 4000000 in
set_option maxRecDepth 100000 in
theorem c_X7_ruled_no {l : Launch} {D : va_G} {w : gw} {M : Nat → Nat → Int32} {J : Nat → Nat → Int64} {R : Nat → Nat → Option Nat} (hw : w.1 = 166) (hR : LayC R) {a i : Int32} (hno : isSh a = 0 ∨ isIn (M 0 9) i = 0) : Cf l yX7_ruled wsX7_ruled ({ frames := 6, cells := 0, slots := 0, locals := 144 } : Room) D w [.ref (w.2.1 0), .int a, .int i] M J R (some (.int (-1))) M J R := by
  refine Cg.of (own := RX7) (cc := cX7_ruled) (maxL := 3) (ret := (some .int)) 0 (by decide) rfl rfl (Nat.le_of_ble_eq_true rfl) (fun X C hts V Rr => ?_)
  have F7 : FW X 7 := fun q h => hts q (List.mem_cons_of_mem _ (List.mem_append_left _ (List.mem_append_left _ (List.mem_append_left _ (List.mem_append_left _ (List.mem_append_right _ h))))))
  have F6 : FW X 6 := fun q h => hts q (List.mem_cons_of_mem _ (List.mem_append_left _ (List.mem_append_left _ (List.mem_append_left _ (List.mem_append_right _ h)))))
  have F0 : FW X 0 := fun q h => hts q (List.mem_cons_of_mem _ (List.mem_append_left _ (List.mem_append_left _ (List.mem_append_right _ h))))
  have F2 : FW X 2 := fun q h => hts q (List.mem_cons_of_mem _ (List.mem_append_left _ (List.mem_append_right _ h)))
  have F3 : FW X 3 := fun q h => hts q (List.mem_cons_of_mem _ (List.mem_append_right _ h))
  show Gj X 0 0 w M J R 0 [some (.ref (w.2.1 0)), some (.int a), some (.int i)] []
  refine g_iload_n C dX7_ruled_0 rfl ?_
  refine g_callSf C hts V (gX7_ruled_X7_isShelf) rfl hdX7_isShelf (by decide) c_X7_isShelf rfl rfl (Nat.le_of_ble_eq_true rfl) dX7_ruled_1 ?_
  refine g_if_eq (tgt := 15) C dX7_ruled_4 (by decide) (fun c4 => ?_) (fun c4 => ?_)
  · refine g_iconst (v := (-1)) C dX7_ruled_15 (by decide) ?_
    exact g_iret C Rr ⟨rfl, ⟨rfl, rfl⟩⟩ dX7_ruled_16
  · refine g_aload_n C dX7_ruled_7 rfl ?_
    refine g_iload_n C dX7_ruled_8 rfl ?_
    refine g_callVf C hts V (i := 0) (gX7_ruled_X7_isInput) rfl hdX7_isInput (by decide) (c_X7_isInput hw hR) (by rw [hw]; decide) rfl (by decide) rfl rfl (Nat.le_of_ble_eq_true rfl) dX7_ruled_9 ?_
    refine g_if_ne (tgt := 17) C dX7_ruled_12 (by decide) (fun c12 => ?_) (fun c12 => ?_)
    · exact absurd hno (fun z => by rcases z with z | z; exact c4 z; exact c12 z)
    · refine g_iconst (v := (-1)) C dX7_ruled_15 (by decide) ?_
      exact g_iret C Rr ⟨rfl, ⟨rfl, rfl⟩⟩ dX7_ruled_16

set_option maxHeartbeats 4000000 in
set_option maxRecDepth 100000 in
theorem c_X7_nearest_no {l : Launch} {D : va_G} {w : gw} {M : Nat → Nat → Int32} {J : Nat → Nat → Int64} {R : Nat → Nat → Option Nat} (hw : w.1 = 166) (hR : LayC R) {a i : Int32} (hno : isSh a = 0 ∨ isIn (M 0 9) i = 0) : Cf l yX7_nearest wsX7_nearest ({ frames := 6, cells := 0, slots := 0, locals := 144 } : Room) D w [.ref (w.2.1 0), .int a, .int i] M J R (some (.int (-1))) M J R := by
  refine Cg.of (own := RX7) (cc := cX7_nearest) (maxL := 3) (ret := (some .int)) 0 (by decide) rfl rfl (Nat.le_of_ble_eq_true rfl) (fun X C hts V Rr => ?_)
  have F7 : FW X 7 := fun q h => hts q (List.mem_cons_of_mem _ (List.mem_append_left _ (List.mem_append_left _ (List.mem_append_left _ (List.mem_append_left _ (List.mem_append_right _ h))))))
  have F6 : FW X 6 := fun q h => hts q (List.mem_cons_of_mem _ (List.mem_append_left _ (List.mem_append_left _ (List.mem_append_left _ (List.mem_append_right _ h)))))
  have F0 : FW X 0 := fun q h => hts q (List.mem_cons_of_mem _ (List.mem_append_left _ (List.mem_append_left _ (List.mem_append_right _ h))))
  have F2 : FW X 2 := fun q h => hts q (List.mem_cons_of_mem _ (List.mem_append_left _ (List.mem_append_right _ h)))
  have F3 : FW X 3 := fun q h => hts q (List.mem_cons_of_mem _ (List.mem_append_right _ h))
  show Gj X 0 0 w M J R 0 [some (.ref (w.2.1 0)), some (.int a), some (.int i)] []
  refine g_iload_n C dX7_nearest_0 rfl ?_
  refine g_callSf C hts V (gX7_nearest_X7_isShelf) rfl hdX7_isShelf (by decide) c_X7_isShelf rfl rfl (Nat.le_of_ble_eq_true rfl) dX7_nearest_1 ?_
  refine g_if_eq (tgt := 15) C dX7_nearest_4 (by decide) (fun c4 => ?_) (fun c4 => ?_)
  · refine g_iconst (v := (-1)) C dX7_nearest_15 (by decide) ?_
    exact g_iret C Rr ⟨rfl, ⟨rfl, rfl⟩⟩ dX7_nearest_16
  · refine g_aload_n C dX7_nearest_7 rfl ?_
    refine g_iload_n C dX7_nearest_8 rfl ?_
    refine g_callVf C hts V (i := 0) (gX7_nearest_X7_isInput) rfl hdX7_isInput (by decide) (c_X7_isInput hw hR) (by rw [hw]; decide) rfl (by decide) rfl rfl (Nat.le_of_ble_eq_true rfl) dX7_nearest_9 ?_
    refine g_if_ne (tgt := 17) C dX7_nearest_12 (by decide) (fun c12 => ?_) (fun c12 => ?_)
    · exact absurd hno (fun z => by rcases z with z | z; exact c4 z; exact c12 z)
    · refine g_iconst (v := (-1)) C dX7_nearest_15 (by decide) ?_
      exact g_iret C Rr ⟨rfl, ⟨rfl, rfl⟩⟩ dX7_nearest_16

set_option maxHeartbeats 4000000 in
set_option maxRecDepth 100000 in
theorem c_X7_nearestByte_no {l : Launch} {D : va_G} {w : gw} {M : Nat → Nat → Int32} {J : Nat → Nat → Int64} {R : Nat → Nat → Option Nat} (hw : w.1 = 166) (hR : LayC R) {a i : Int32} (hno : isSh a = 0 ∨ isIn (M 0 9) i = 0) : Cf l yX7_nearestByte wsX7_nearestByte ({ frames := 6, cells := 0, slots := 0, locals := 144 } : Room) D w [.ref (w.2.1 0), .int a, .int i] M J R (some (.int (-1))) M J R := by
  refine Cg.of (own := RX7) (cc := cX7_nearestByte) (maxL := 3) (ret := (some .int)) 0 (by decide) rfl rfl (Nat.le_of_ble_eq_true rfl) (fun X C hts V Rr => ?_)
  have F7 : FW X 7 := fun q h => hts q (List.mem_cons_of_mem _ (List.mem_append_left _ (List.mem_append_left _ (List.mem_append_left _ (List.mem_append_left _ (List.mem_append_right _ h))))))
  have F6 : FW X 6 := fun q h => hts q (List.mem_cons_of_mem _ (List.mem_append_left _ (List.mem_append_left _ (List.mem_append_left _ (List.mem_append_right _ h)))))
  have F0 : FW X 0 := fun q h => hts q (List.mem_cons_of_mem _ (List.mem_append_left _ (List.mem_append_left _ (List.mem_append_right _ h))))
  have F2 : FW X 2 := fun q h => hts q (List.mem_cons_of_mem _ (List.mem_append_left _ (List.mem_append_right _ h)))
  have F3 : FW X 3 := fun q h => hts q (List.mem_cons_of_mem _ (List.mem_append_right _ h))
  show Gj X 0 0 w M J R 0 [some (.ref (w.2.1 0)), some (.int a), some (.int i)] []
  refine g_iload_n C dX7_nearestByte_0 rfl ?_
  refine g_callSf C hts V (gX7_nearestByte_X7_isShelf) rfl hdX7_isShelf (by decide) c_X7_isShelf rfl rfl (Nat.le_of_ble_eq_true rfl) dX7_nearestByte_1 ?_
  refine g_if_eq (tgt := 15) C dX7_nearestByte_4 (by decide) (fun c4 => ?_) (fun c4 => ?_)
  · refine g_iconst (v := (-1)) C dX7_nearestByte_15 (by decide) ?_
    exact g_iret C Rr ⟨rfl, ⟨rfl, rfl⟩⟩ dX7_nearestByte_16
  · refine g_aload_n C dX7_nearestByte_7 rfl ?_
    refine g_iload_n C dX7_nearestByte_8 rfl ?_
    refine g_callVf C hts V (i := 0) (gX7_nearestByte_X7_isInput) rfl hdX7_isInput (by decide) (c_X7_isInput hw hR) (by rw [hw]; decide) rfl (by decide) rfl rfl (Nat.le_of_ble_eq_true rfl) dX7_nearestByte_9 ?_
    refine g_if_ne (tgt := 17) C dX7_nearestByte_12 (by decide) (fun c12 => ?_) (fun c12 => ?_)
    · exact absurd hno (fun z => by rcases z with z | z; exact c4 z; exact c12 z)
    · refine g_iconst (v := (-1)) C dX7_nearestByte_15 (by decide) ?_
      exact g_iret C Rr ⟨rfl, ⟨rfl, rfl⟩⟩ dX7_nearestByte_16

set_option maxHeartbeats 4000000 in
set_option maxRecDepth 100000 in
theorem c_X7_ruled {l : Launch} {D : va_G} {w : gw} {M : Nat → Nat → Int32} {J : Nat → Nat → Int64} {R : Nat → Nat → Option Nat} (hw : w.1 = 166) (hR : LayC R) {π : Nat → Nat} (hS : ∀ k, k < 3 → R 3 k = some (π k) ∧ isProg w R (π k)) {a n i : Nat} {P : List act4} {I : List Int32} (ha : a < 3) (hn : n ≤ 30) (h9 : M 0 9 = nI n) (hi : i < n) (hpa : π a + 4 < 25 ∨ 58 < π a) (hP : progIs M (π a) P) (hL : okL P) (hI : rowIs M (74 + 2 * i) I) (hB : okI I) : Ct l yX7_ruled wsX7_ruled ({ frames := 6, cells := 0, slots := 0, locals := 144 } : Room) D w [.ref (w.2.1 0), .int (nI a), .int (nI i)] (M, J, R) (fun v u => v = some (.int (if RUN P I 0 8 = -1 then 0 else rbits (fun k => (hfd (rlB P (RUN P I 0 7) (RUN P I 0 8) (RUN P I 0 9) I k) 256).isSome) (RUN P I 0 5).toNatClampNeg)) ∧ u.2.1 = J ∧ u.2.2 = R ∧ uF M u.1) := by
  obtain ⟨p, hpe⟩ : ∃ p, p = π a := ⟨_, rfl⟩
  obtain ⟨q, hqe⟩ : ∃ q, q = 74 + 2 * i := ⟨_, rfl⟩
  have hp := hS a ha
  rw [← hpe] at hp hP hpa
  have hq := row_in hw hR (show i < 30 by omega)
  rw [← hqe] at hq hI
  obtain ⟨hp3, hp⟩ := hp
  obtain ⟨hq3, hq⟩ := hq
  obtain ⟨p_hi4, p_k, p_k1, p_k2, p_k3, p_k4, p_l1, p_l2, p_l3, p_l4, p_r0, p_r1, p_r2, p_r3⟩ := id hp
  have p_hi : p < w.1 := by omega
  have p_hi1 : p + 1 < w.1 := by omega
  have p_hi2 : p + 2 < w.1 := by omega
  have p_hi3 : p + 3 < w.1 := by omega
  obtain ⟨q_hi1, q_k, q_k1, q_0⟩ := id hq
  have q_hi : q < w.1 := by omega
  refine Cg.of (own := RX7) (cc := cX7_ruled) (maxL := 3) (ret := (some .int)) 0 (by decide) rfl rfl (Nat.le_of_ble_eq_true rfl) (fun X C hts V Rr => ?_)
  have F7 : FW X 7 := fun q h => hts q (List.mem_cons_of_mem _ (List.mem_append_left _ (List.mem_append_left _ (List.mem_append_left _ (List.mem_append_left _ (List.mem_append_right _ h))))))
  have F6 : FW X 6 := fun q h => hts q (List.mem_cons_of_mem _ (List.mem_append_left _ (List.mem_append_left _ (List.mem_append_left _ (List.mem_append_right _ h)))))
  have F0 : FW X 0 := fun q h => hts q (List.mem_cons_of_mem _ (List.mem_append_left _ (List.mem_append_left _ (List.mem_append_right _ h))))
  have F2 : FW X 2 := fun q h => hts q (List.mem_cons_of_mem _ (List.mem_append_left _ (List.mem_append_right _ h)))
  have F3 : FW X 3 := fun q h => hts q (List.mem_cons_of_mem _ (List.mem_append_right _ h))
  show Gj X 0 0 w M J R 0 [some (.ref (w.2.1 0)), some (.int (nI a)), some (.int (nI i))] []
  refine g_iload_n C dX7_ruled_0 rfl ?_
  refine g_callSf C hts V (gX7_ruled_X7_isShelf) rfl hdX7_isShelf (by decide) c_X7_isShelf rfl rfl (Nat.le_of_ble_eq_true rfl) dX7_ruled_1 ?_
  refine g_if_eq (tgt := 15) C dX7_ruled_4 (by decide) (fun c4 => absurd c4 (isSh_n ha)) (fun c4 => ?_)
  refine g_aload_n C dX7_ruled_7 rfl ?_
  refine g_iload_n C dX7_ruled_8 rfl ?_
  refine g_callVf C hts V (i := 0) (gX7_ruled_X7_isInput) rfl hdX7_isInput (by decide) (c_X7_isInput hw hR) (by rw [hw]; decide) rfl (by decide) rfl rfl (Nat.le_of_ble_eq_true rfl) dX7_ruled_9 ?_
  refine g_if_ne (tgt := 17) C dX7_ruled_12 (by decide) (fun c12 => ?_) (fun c12 => absurd c12 (by rw [h9]; exact isIn_n hn hi))
  refine g_aload_n C dX7_ruled_17 rfl ?_
  refine g_getr (j := 42) C F7 (by rw [hw]; decide) rfl (by decide) 8 (by decide) rfl (hts (.fieldLink RX7 58 "FallBench" "trier" "LFallBench$Trier;") (by decide +kernel)) rfl (hR (0, 8, 42) (by decide)) dX7_ruled_18 ?_
  refine g_aload_n C dX7_ruled_21 rfl ?_
  refine g_getr (j := 3) C F7 (by rw [hw]; decide) rfl (by decide) 1 (by decide) rfl (hts (.fieldLink RX7 20 "FallBench" "shelves" "[LFallBench$Program;") (by decide +kernel)) rfl (hR (0, 1, 3) (by decide)) dX7_ruled_22 ?_
  refine g_iload_n C dX7_ruled_25 rfl ?_
  refine g_aald (j := p) C (by rw [hw]; decide) (by decide) (vp_in_nI (N := 3) ha (by decide)) (by rw [nI_clamp (by omega)]; exact hp3) dX7_ruled_26 ?_
  refine g_aload_n C dX7_ruled_27 rfl ?_
  refine g_getr (j := 19) C F7 (by rw [hw]; decide) rfl (by decide) 3 (by decide) rfl (hts (.fieldLink RX7 31 "FallBench" "inputs" "[LFallBench$Row;") (by decide +kernel)) rfl (hR (0, 3, 19) (by decide)) dX7_ruled_28 ?_
  refine g_iload_n C dX7_ruled_31 rfl ?_
  refine g_aald (j := q) C (by rw [hw]; decide) (by decide) (vp_in_nI (N := 30) (by omega) (by decide)) (by rw [nI_clamp (by omega)]; exact hq3) dX7_ruled_32 ?_
  refine g_callVt C hts V (i := 42) (gX7_ruled_X6_rulingBytes) rfl hdX6_rulingBytes (by decide) (c_X6_rulingBytes hw hR hp hpa hq (by omega) hP hL hI hB) (by rw [hw]; decide) rfl (by decide) rfl rfl (Nat.le_of_ble_eq_true rfl) dX7_ruled_33 (fun v M1 J1 R1 h => ?_)
  obtain ⟨h0, hJ, hR1, hF⟩ := h
  subst h0
  have hJ := Eq.symm hJ
  subst hJ
  have hR1 := Eq.symm hR1
  subst hR1
  try dsimp only at hF
  exact g_iret C Rr ⟨rfl, ⟨rfl, rfl, rfl, hF⟩⟩ dX7_ruled_36

set_option maxHeartbeats 4000000 in
set_option maxRecDepth 100000 in
theorem c_X7_nearest {l : Launch} {D : va_G} {w : gw} {M : Nat → Nat → Int32} {J : Nat → Nat → Int64} {R : Nat → Nat → Option Nat} (hw : w.1 = 166) (hR : LayC R) {π : Nat → Nat} (hS : ∀ k, k < 3 → R 3 k = some (π k) ∧ isProg w R (π k)) {a n i : Nat} {P : List act4} {I : List Int32} (ha : a < 3) (hn : n ≤ 30) (h9 : M 0 9 = nI n) (hi : i < n) (hpa : π a + 4 < 25 ∨ 58 < π a) (hP : progIs M (π a) P) (hL : okL P) (hI : rowIs M (74 + 2 * i) I) (hB : okI I) : Ct l yX7_nearest wsX7_nearest ({ frames := 6, cells := 0, slots := 0, locals := 144 } : Room) D w [.ref (w.2.1 0), .int (nI a), .int (nI i)] (M, J, R) (fun v u => v = some (.int (NEAR P I).1) ∧ u.2.1 = J ∧ u.2.2 = R ∧ vF M u.1) := by
  obtain ⟨p, hpe⟩ : ∃ p, p = π a := ⟨_, rfl⟩
  obtain ⟨q, hqe⟩ : ∃ q, q = 74 + 2 * i := ⟨_, rfl⟩
  have hp := hS a ha
  rw [← hpe] at hp hP hpa
  have hq := row_in hw hR (show i < 30 by omega)
  rw [← hqe] at hq hI
  obtain ⟨hp3, hp⟩ := hp
  obtain ⟨hq3, hq⟩ := hq
  obtain ⟨p_hi4, p_k, p_k1, p_k2, p_k3, p_k4, p_l1, p_l2, p_l3, p_l4, p_r0, p_r1, p_r2, p_r3⟩ := id hp
  have p_hi : p < w.1 := by omega
  have p_hi1 : p + 1 < w.1 := by omega
  have p_hi2 : p + 2 < w.1 := by omega
  have p_hi3 : p + 3 < w.1 := by omega
  obtain ⟨q_hi1, q_k, q_k1, q_0⟩ := id hq
  have q_hi : q < w.1 := by omega
  refine Cg.of (own := RX7) (cc := cX7_nearest) (maxL := 3) (ret := (some .int)) 0 (by decide) rfl rfl (Nat.le_of_ble_eq_true rfl) (fun X C hts V Rr => ?_)
  have F7 : FW X 7 := fun q h => hts q (List.mem_cons_of_mem _ (List.mem_append_left _ (List.mem_append_left _ (List.mem_append_left _ (List.mem_append_left _ (List.mem_append_right _ h))))))
  have F6 : FW X 6 := fun q h => hts q (List.mem_cons_of_mem _ (List.mem_append_left _ (List.mem_append_left _ (List.mem_append_left _ (List.mem_append_right _ h)))))
  have F0 : FW X 0 := fun q h => hts q (List.mem_cons_of_mem _ (List.mem_append_left _ (List.mem_append_left _ (List.mem_append_right _ h))))
  have F2 : FW X 2 := fun q h => hts q (List.mem_cons_of_mem _ (List.mem_append_left _ (List.mem_append_right _ h)))
  have F3 : FW X 3 := fun q h => hts q (List.mem_cons_of_mem _ (List.mem_append_right _ h))
  show Gj X 0 0 w M J R 0 [some (.ref (w.2.1 0)), some (.int (nI a)), some (.int (nI i))] []
  refine g_iload_n C dX7_nearest_0 rfl ?_
  refine g_callSf C hts V (gX7_nearest_X7_isShelf) rfl hdX7_isShelf (by decide) c_X7_isShelf rfl rfl (Nat.le_of_ble_eq_true rfl) dX7_nearest_1 ?_
  refine g_if_eq (tgt := 15) C dX7_nearest_4 (by decide) (fun c4 => absurd c4 (isSh_n ha)) (fun c4 => ?_)
  refine g_aload_n C dX7_nearest_7 rfl ?_
  refine g_iload_n C dX7_nearest_8 rfl ?_
  refine g_callVf C hts V (i := 0) (gX7_nearest_X7_isInput) rfl hdX7_isInput (by decide) (c_X7_isInput hw hR) (by rw [hw]; decide) rfl (by decide) rfl rfl (Nat.le_of_ble_eq_true rfl) dX7_nearest_9 ?_
  refine g_if_ne (tgt := 17) C dX7_nearest_12 (by decide) (fun c12 => ?_) (fun c12 => absurd c12 (by rw [h9]; exact isIn_n hn hi))
  refine g_aload_n C dX7_nearest_17 rfl ?_
  refine g_getr (j := 42) C F7 (by rw [hw]; decide) rfl (by decide) 8 (by decide) rfl (hts (.fieldLink RX7 58 "FallBench" "trier" "LFallBench$Trier;") (by decide +kernel)) rfl (hR (0, 8, 42) (by decide)) dX7_nearest_18 ?_
  refine g_aload_n C dX7_nearest_21 rfl ?_
  refine g_getr (j := 3) C F7 (by rw [hw]; decide) rfl (by decide) 1 (by decide) rfl (hts (.fieldLink RX7 20 "FallBench" "shelves" "[LFallBench$Program;") (by decide +kernel)) rfl (hR (0, 1, 3) (by decide)) dX7_nearest_22 ?_
  refine g_iload_n C dX7_nearest_25 rfl ?_
  refine g_aald (j := p) C (by rw [hw]; decide) (by decide) (vp_in_nI (N := 3) ha (by decide)) (by rw [nI_clamp (by omega)]; exact hp3) dX7_nearest_26 ?_
  refine g_aload_n C dX7_nearest_27 rfl ?_
  refine g_getr (j := 19) C F7 (by rw [hw]; decide) rfl (by decide) 3 (by decide) rfl (hts (.fieldLink RX7 31 "FallBench" "inputs" "[LFallBench$Row;") (by decide +kernel)) rfl (hR (0, 3, 19) (by decide)) dX7_nearest_28 ?_
  refine g_iload_n C dX7_nearest_31 rfl ?_
  refine g_aald (j := q) C (by rw [hw]; decide) (by decide) (vp_in_nI (N := 30) (by omega) (by decide)) (by rw [nI_clamp (by omega)]; exact hq3) dX7_nearest_32 ?_
  refine g_callVt C hts V (i := 42) (gX7_nearest_X6_findNearest) rfl hdX6_findNearest (by decide) (c_X6_findNearest hw hR hp hpa hq (by omega) hP hL hI hB) (by rw [hw]; decide) rfl (by decide) rfl rfl (Nat.le_of_ble_eq_true rfl) dX7_nearest_33 (fun v M1 J1 R1 h => ?_)
  obtain ⟨h0, hJ, hR1, g1, g2, hF⟩ := h
  subst h0
  have hJ := Eq.symm hJ
  subst hJ
  have hR1 := Eq.symm hR1
  subst hR1
  try dsimp only at hF g1 g2
  show Gj X 0 0 w M1 J R 36 [some (.ref (w.2.1 0)), some (.int (nI a)), some (.int (nI i))] []
  refine g_aload_n C dX7_nearest_36 rfl ?_
  refine g_getr (j := 42) C F7 (by rw [hw]; decide) rfl (by decide) 8 (by decide) rfl (hts (.fieldLink RX7 58 "FallBench" "trier" "LFallBench$Trier;") (by decide +kernel)) rfl (hR (0, 8, 42) (by decide)) dX7_nearest_37 ?_
  refine g_geti (v := (NEAR P I).1) C F6 (by rw [hw]; decide) rfl (by decide) 2 (by decide) rfl (hts (.fieldLink RX7 208 "FallBench$Trier" "nearestPlace" "I") (by decide +kernel)) rfl g1 dX7_nearest_40 ?_
  exact g_iret C Rr ⟨rfl, ⟨rfl, rfl, rfl, hF⟩⟩ dX7_nearest_43

set_option maxHeartbeats 4000000 in
set_option maxRecDepth 100000 in
theorem c_X7_nearestByte {l : Launch} {D : va_G} {w : gw} {M : Nat → Nat → Int32} {J : Nat → Nat → Int64} {R : Nat → Nat → Option Nat} (hw : w.1 = 166) (hR : LayC R) {π : Nat → Nat} (hS : ∀ k, k < 3 → R 3 k = some (π k) ∧ isProg w R (π k)) {a n i : Nat} {P : List act4} {I : List Int32} (ha : a < 3) (hn : n ≤ 30) (h9 : M 0 9 = nI n) (hi : i < n) (hpa : π a + 4 < 25 ∨ 58 < π a) (hP : progIs M (π a) P) (hL : okL P) (hI : rowIs M (74 + 2 * i) I) (hB : okI I) : Ct l yX7_nearestByte wsX7_nearestByte ({ frames := 6, cells := 0, slots := 0, locals := 144 } : Room) D w [.ref (w.2.1 0), .int (nI a), .int (nI i)] (M, J, R) (fun v u => v = some (.int (NEAR P I).2) ∧ u.2.1 = J ∧ u.2.2 = R ∧ vF M u.1) := by
  obtain ⟨p, hpe⟩ : ∃ p, p = π a := ⟨_, rfl⟩
  obtain ⟨q, hqe⟩ : ∃ q, q = 74 + 2 * i := ⟨_, rfl⟩
  have hp := hS a ha
  rw [← hpe] at hp hP hpa
  have hq := row_in hw hR (show i < 30 by omega)
  rw [← hqe] at hq hI
  obtain ⟨hp3, hp⟩ := hp
  obtain ⟨hq3, hq⟩ := hq
  obtain ⟨p_hi4, p_k, p_k1, p_k2, p_k3, p_k4, p_l1, p_l2, p_l3, p_l4, p_r0, p_r1, p_r2, p_r3⟩ := id hp
  have p_hi : p < w.1 := by omega
  have p_hi1 : p + 1 < w.1 := by omega
  have p_hi2 : p + 2 < w.1 := by omega
  have p_hi3 : p + 3 < w.1 := by omega
  obtain ⟨q_hi1, q_k, q_k1, q_0⟩ := id hq
  have q_hi : q < w.1 := by omega
  refine Cg.of (own := RX7) (cc := cX7_nearestByte) (maxL := 3) (ret := (some .int)) 0 (by decide) rfl rfl (Nat.le_of_ble_eq_true rfl) (fun X C hts V Rr => ?_)
  have F7 : FW X 7 := fun q h => hts q (List.mem_cons_of_mem _ (List.mem_append_left _ (List.mem_append_left _ (List.mem_append_left _ (List.mem_append_left _ (List.mem_append_right _ h))))))
  have F6 : FW X 6 := fun q h => hts q (List.mem_cons_of_mem _ (List.mem_append_left _ (List.mem_append_left _ (List.mem_append_left _ (List.mem_append_right _ h)))))
  have F0 : FW X 0 := fun q h => hts q (List.mem_cons_of_mem _ (List.mem_append_left _ (List.mem_append_left _ (List.mem_append_right _ h))))
  have F2 : FW X 2 := fun q h => hts q (List.mem_cons_of_mem _ (List.mem_append_left _ (List.mem_append_right _ h)))
  have F3 : FW X 3 := fun q h => hts q (List.mem_cons_of_mem _ (List.mem_append_right _ h))
  show Gj X 0 0 w M J R 0 [some (.ref (w.2.1 0)), some (.int (nI a)), some (.int (nI i))] []
  refine g_iload_n C dX7_nearestByte_0 rfl ?_
  refine g_callSf C hts V (gX7_nearestByte_X7_isShelf) rfl hdX7_isShelf (by decide) c_X7_isShelf rfl rfl (Nat.le_of_ble_eq_true rfl) dX7_nearestByte_1 ?_
  refine g_if_eq (tgt := 15) C dX7_nearestByte_4 (by decide) (fun c4 => absurd c4 (isSh_n ha)) (fun c4 => ?_)
  refine g_aload_n C dX7_nearestByte_7 rfl ?_
  refine g_iload_n C dX7_nearestByte_8 rfl ?_
  refine g_callVf C hts V (i := 0) (gX7_nearestByte_X7_isInput) rfl hdX7_isInput (by decide) (c_X7_isInput hw hR) (by rw [hw]; decide) rfl (by decide) rfl rfl (Nat.le_of_ble_eq_true rfl) dX7_nearestByte_9 ?_
  refine g_if_ne (tgt := 17) C dX7_nearestByte_12 (by decide) (fun c12 => ?_) (fun c12 => absurd c12 (by rw [h9]; exact isIn_n hn hi))
  refine g_aload_n C dX7_nearestByte_17 rfl ?_
  refine g_getr (j := 42) C F7 (by rw [hw]; decide) rfl (by decide) 8 (by decide) rfl (hts (.fieldLink RX7 58 "FallBench" "trier" "LFallBench$Trier;") (by decide +kernel)) rfl (hR (0, 8, 42) (by decide)) dX7_nearestByte_18 ?_
  refine g_aload_n C dX7_nearestByte_21 rfl ?_
  refine g_getr (j := 3) C F7 (by rw [hw]; decide) rfl (by decide) 1 (by decide) rfl (hts (.fieldLink RX7 20 "FallBench" "shelves" "[LFallBench$Program;") (by decide +kernel)) rfl (hR (0, 1, 3) (by decide)) dX7_nearestByte_22 ?_
  refine g_iload_n C dX7_nearestByte_25 rfl ?_
  refine g_aald (j := p) C (by rw [hw]; decide) (by decide) (vp_in_nI (N := 3) ha (by decide)) (by rw [nI_clamp (by omega)]; exact hp3) dX7_nearestByte_26 ?_
  refine g_aload_n C dX7_nearestByte_27 rfl ?_
  refine g_getr (j := 19) C F7 (by rw [hw]; decide) rfl (by decide) 3 (by decide) rfl (hts (.fieldLink RX7 31 "FallBench" "inputs" "[LFallBench$Row;") (by decide +kernel)) rfl (hR (0, 3, 19) (by decide)) dX7_nearestByte_28 ?_
  refine g_iload_n C dX7_nearestByte_31 rfl ?_
  refine g_aald (j := q) C (by rw [hw]; decide) (by decide) (vp_in_nI (N := 30) (by omega) (by decide)) (by rw [nI_clamp (by omega)]; exact hq3) dX7_nearestByte_32 ?_
  refine g_callVt C hts V (i := 42) (gX7_nearestByte_X6_findNearest) rfl hdX6_findNearest (by decide) (c_X6_findNearest hw hR hp hpa hq (by omega) hP hL hI hB) (by rw [hw]; decide) rfl (by decide) rfl rfl (Nat.le_of_ble_eq_true rfl) dX7_nearestByte_33 (fun v M1 J1 R1 h => ?_)
  obtain ⟨h0, hJ, hR1, g1, g2, hF⟩ := h
  subst h0
  have hJ := Eq.symm hJ
  subst hJ
  have hR1 := Eq.symm hR1
  subst hR1
  try dsimp only at hF g1 g2
  show Gj X 0 0 w M1 J R 36 [some (.ref (w.2.1 0)), some (.int (nI a)), some (.int (nI i))] []
  refine g_aload_n C dX7_nearestByte_36 rfl ?_
  refine g_getr (j := 42) C F7 (by rw [hw]; decide) rfl (by decide) 8 (by decide) rfl (hts (.fieldLink RX7 58 "FallBench" "trier" "LFallBench$Trier;") (by decide +kernel)) rfl (hR (0, 8, 42) (by decide)) dX7_nearestByte_37 ?_
  refine g_geti (v := (NEAR P I).2) C F6 (by rw [hw]; decide) rfl (by decide) 3 (by decide) rfl (hts (.fieldLink RX7 211 "FallBench$Trier" "nearestValue" "I") (by decide +kernel)) rfl g2 dX7_nearestByte_40 ?_
  exact g_iret C Rr ⟨rfl, ⟨rfl, rfl, rfl, hF⟩⟩ dX7_nearestByte_43

/-- a step does not look at bytes that it does not read -/
theorem k_sw_in {K : Nat → Nat → Int32} {x : act4} {a cnt : Int32} {I I' : List Int32} (h : x.1 = 0 → inAt I (K 0 5) = inAt I' (K 0 5)) : k_sw K x a I cnt = k_sw K x a I' cnt := by
  unfold k_sw
  by_cases e : x.1 = 0
  · rw [if_pos e, if_pos e, h e]
  · rw [if_neg e, if_neg e]
theorem k_one_in {P : List act4} {K : Nat → Nat → Int32} {I I' : List Int32} (h : inAt I (K 0 5) = inAt I' (K 0 5)) : k_one P I K = k_one P I' K := by
  unfold k_one
  rw [k_sw_in (I := I) (I' := I') (fun _ => by rw [up2_n2 _ _ (show 5 ≠ 12 by decide)]; exact h)]
theorem inAt_set (I : List Int32) {k c : Nat} (v : Int32) (h : c ≠ k) (hc : c < 2 ^ 31) : inAt (I.set k v) (nI c) = inAt I (nI c) := by
  unfold inAt
  rw [List.length_set]
  by_cases h1 : nI c < 0
  · rw [if_pos h1, if_pos h1]
  rw [if_neg h1, if_neg h1]
  by_cases h2 : nI I.length ≤ nI c
  · rw [if_pos h2, if_pos h2]
  rw [if_neg h2, if_neg h2, nI_clamp hc, getD_set I v h]
