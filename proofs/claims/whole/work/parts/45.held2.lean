/-! held and heldAll of both sides -/
def cntH (f : Nat → Int32) (how : Int32) : Nat → Nat
  | 0 => 0
  | n + 1 => cntH f how n + (if f n = how then 1 else 0)
theorem cntH_le (f : Nat → Int32) (how : Int32) (n : Nat) : cntH f how n ≤ n := by
  induction n with
  | zero => exact Nat.le_refl 0
  | succ n ih => simp only [cntH]; split <;> omega

set_option maxHeartbeats 4000000 in
set_option maxRecDepth 100000 in
theorem c_X7_held_no {l : Launch} {D : va_G} {w : gw} {M : Nat → Nat → Int32} {J : Nat → Nat → Int64} {R : Nat → Nat → Option Nat} (hw : w.1 = 166) (hR : LayC R) {a b i : Int32} (hno : isSh a = 0 ∨ isSh b = 0 ∨ isIn (M 0 9) i = 0) : Cf l yX7_held wsX7_held ({ frames := 5, cells := 0, slots := 0, locals := 122 } : Room) D w [.ref (w.2.1 0), .int a, .int b, .int i] M J R (some (.int (-1))) M J R := by
  refine Cg.of (own := RX7) (cc := cX7_held) (maxL := 4) (ret := (some .int)) 0 (by decide) rfl rfl (Nat.le_of_ble_eq_true rfl) (fun X C hts V Rr => ?_)
  have F7 : FW X 7 := fun q h => hts q (List.mem_cons_of_mem _ (List.mem_append_left _ (List.mem_append_left _ (List.mem_append_left _ (List.mem_append_right _ h)))))
  have F0 : FW X 0 := fun q h => hts q (List.mem_cons_of_mem _ (List.mem_append_left _ (List.mem_append_left _ (List.mem_append_right _ h))))
  have F2 : FW X 2 := fun q h => hts q (List.mem_cons_of_mem _ (List.mem_append_left _ (List.mem_append_right _ h)))
  have F3 : FW X 3 := fun q h => hts q (List.mem_cons_of_mem _ (List.mem_append_right _ h))
  show Gj X 0 0 w M J R 0 [some (.ref (w.2.1 0)), some (.int a), some (.int b), some (.int i)] []
  refine g_iload_n C dX7_held_0 rfl ?_
  refine g_callSf C hts V (gX7_held_X7_isShelf) rfl hdX7_isShelf (by decide) c_X7_isShelf rfl rfl (Nat.le_of_ble_eq_true rfl) dX7_held_1 ?_
  refine g_if_eq (tgt := 22) C dX7_held_4 (by decide) (fun c4 => ?_) (fun c4 => ?_)
  · refine g_iconst (v := (-1)) C dX7_held_22 (by decide) ?_
    exact g_iret C Rr ⟨rfl, ⟨rfl, rfl⟩⟩ dX7_held_23
  · refine g_iload_n C dX7_held_7 rfl ?_
    refine g_callSf C hts V (gX7_held_X7_isShelf) rfl hdX7_isShelf (by decide) c_X7_isShelf rfl rfl (Nat.le_of_ble_eq_true rfl) dX7_held_8 ?_
    refine g_if_eq (tgt := 22) C dX7_held_11 (by decide) (fun c11 => ?_) (fun c11 => ?_)
    · refine g_iconst (v := (-1)) C dX7_held_22 (by decide) ?_
      exact g_iret C Rr ⟨rfl, ⟨rfl, rfl⟩⟩ dX7_held_23
    · refine g_aload_n C dX7_held_14 rfl ?_
      refine g_iload_n C dX7_held_15 rfl ?_
      refine g_callVf C hts V (i := 0) (gX7_held_X7_isInput) rfl hdX7_isInput (by decide) (c_X7_isInput hw hR) (by rw [hw]; decide) rfl (by decide) rfl rfl (Nat.le_of_ble_eq_true rfl) dX7_held_16 ?_
      refine g_if_ne (tgt := 24) C dX7_held_19 (by decide) (fun c19 => ?_) (fun c19 => ?_)
      · exact absurd hno (fun z => by rcases z with z | z | z; exact c4 z; exact c11 z; exact c19 z)
      · refine g_iconst (v := (-1)) C dX7_held_22 (by decide) ?_
        exact g_iret C Rr ⟨rfl, ⟨rfl, rfl⟩⟩ dX7_held_23

set_option maxHeartbeats 4000000 in
set_option maxRecDepth 100000 in
theorem c_X7_held {l : Launch} {D : va_G} {w : gw} {M : Nat → Nat → Int32} {J : Nat → Nat → Int64} {R : Nat → Nat → Option Nat} (hw : w.1 = 166) (hR : LayC R) {π : Nat → Nat} (hS : ∀ k, k < 3 → R 3 k = some (π k) ∧ isProg w R (π k)) {a b i n : Nat} {P1 P2 : List act4} {I : List Int32} (ha : a < 3) (hb : b < 3) (hn : n ≤ 30) (h9 : M 0 9 = nI n) (hi : i < n) (hP1 : progIs M (π a) P1) (hP2 : progIs M (π b) P2) (hL1 : okL P1) (hL2 : okL P2) (hI : rowIs M (74 + 2 * i) I) : Ct l yX7_held wsX7_held ({ frames := 5, cells := 0, slots := 0, locals := 122 } : Room) D w [.ref (w.2.1 0), .int (nI a), .int (nI b), .int (nI i)] (M, J, R) (fun v u => v = some (.int (HELD P1 P2 I)) ∧ u.2.1 = J ∧ u.2.2 = R ∧ ∀ x y, ¬ (25 ≤ x ∧ x ≤ 34) → u.1 x y = M x y) := by
  refine Cg.of (own := RX7) (cc := cX7_held) (maxL := 4) (ret := (some .int)) 0 (by decide) rfl rfl (Nat.le_of_ble_eq_true rfl) (fun X C hts V Rr => ?_)
  have F7 : FW X 7 := fun q h => hts q (List.mem_cons_of_mem _ (List.mem_append_left _ (List.mem_append_left _ (List.mem_append_left _ (List.mem_append_right _ h)))))
  have F0 : FW X 0 := fun q h => hts q (List.mem_cons_of_mem _ (List.mem_append_left _ (List.mem_append_left _ (List.mem_append_right _ h))))
  have F2 : FW X 2 := fun q h => hts q (List.mem_cons_of_mem _ (List.mem_append_left _ (List.mem_append_right _ h)))
  have F3 : FW X 3 := fun q h => hts q (List.mem_cons_of_mem _ (List.mem_append_right _ h))
  show Gj X 0 0 w M J R 0 [some (.ref (w.2.1 0)), some (.int (nI a)), some (.int (nI b)), some (.int (nI i))] []
  refine g_iload_n C dX7_held_0 rfl ?_
  refine g_callSf C hts V (gX7_held_X7_isShelf) rfl hdX7_isShelf (by decide) c_X7_isShelf rfl rfl (Nat.le_of_ble_eq_true rfl) dX7_held_1 ?_
  refine g_if_eq (tgt := 22) C dX7_held_4 (by decide) (fun c4 => absurd c4 (isSh_n ha)) (fun c4 => ?_)
  refine g_iload_n C dX7_held_7 rfl ?_
  refine g_callSf C hts V (gX7_held_X7_isShelf) rfl hdX7_isShelf (by decide) c_X7_isShelf rfl rfl (Nat.le_of_ble_eq_true rfl) dX7_held_8 ?_
  refine g_if_eq (tgt := 22) C dX7_held_11 (by decide) (fun c11 => absurd c11 (isSh_n hb)) (fun c11 => ?_)
  refine g_aload_n C dX7_held_14 rfl ?_
  refine g_iload_n C dX7_held_15 rfl ?_
  refine g_callVf C hts V (i := 0) (gX7_held_X7_isInput) rfl hdX7_isInput (by decide) (c_X7_isInput hw hR) (by rw [hw]; decide) rfl (by decide) rfl rfl (Nat.le_of_ble_eq_true rfl) dX7_held_16 ?_
  refine g_if_ne (tgt := 24) C dX7_held_19 (by decide) (fun c19 => ?_) (fun c19 => absurd c19 (by rw [h9]; exact isIn_n hn hi))
  refine g_aload_n C dX7_held_24 rfl ?_
  refine g_iload_n C dX7_held_25 rfl ?_
  refine g_iload_n C dX7_held_26 rfl ?_
  refine g_iload_n C dX7_held_27 rfl ?_
  refine g_callVt C hts V (i := 0) (gX7_held_X7_holdOne) rfl hdX7_holdOne (by decide) (c_X7_holdOne hw hR hS ha hb hn hi hP1 hP2 hL1 hL2 hI) (by rw [hw]; decide) rfl (by decide) rfl rfl (Nat.le_of_ble_eq_true rfl) dX7_held_28 (fun v M1 J1 R1 h => ?_)
  obtain ⟨h0, hJ, hR1, hF⟩ := h
  subst h0
  have hJ := Eq.symm hJ
  subst hJ
  have hR1 := Eq.symm hR1
  subst hR1
  try dsimp only at hF
  exact g_iret C Rr ⟨rfl, ⟨rfl, rfl, rfl, hF⟩⟩ dX7_held_31

set_option maxHeartbeats 4000000 in
set_option maxRecDepth 100000 in
theorem c_X7_heldAll_no {l : Launch} {D : va_G} {w : gw} {M : Nat → Nat → Int32} {J : Nat → Nat → Int64} {R : Nat → Nat → Option Nat} (hw : w.1 = 166) (hR : LayC R) {a b how : Int32} (hno : isSh a = 0 ∨ isSh b = 0 ∨ how < 0 ∨ 6 ≤ how) : Cf l yX7_heldAll wsX7_heldAll ({ frames := 5, cells := 0, slots := 0, locals := 122 } : Room) D w [.ref (w.2.1 0), .int a, .int b, .int how] M J R (some (.int (-1))) M J R := by
  refine Cg.of (own := RX7) (cc := cX7_heldAll) (maxL := 6) (ret := (some .int)) 2 (by decide) rfl rfl (Nat.le_of_ble_eq_true rfl) (fun X C hts V Rr => ?_)
  have F7 : FW X 7 := fun q h => hts q (List.mem_cons_of_mem _ (List.mem_append_left _ (List.mem_append_left _ (List.mem_append_left _ (List.mem_append_right _ h)))))
  have F0 : FW X 0 := fun q h => hts q (List.mem_cons_of_mem _ (List.mem_append_left _ (List.mem_append_left _ (List.mem_append_right _ h))))
  have F2 : FW X 2 := fun q h => hts q (List.mem_cons_of_mem _ (List.mem_append_left _ (List.mem_append_right _ h)))
  have F3 : FW X 3 := fun q h => hts q (List.mem_cons_of_mem _ (List.mem_append_right _ h))
  show Gj X 0 0 w M J R 0 [some (.ref (w.2.1 0)), some (.int a), some (.int b), some (.int how), none, none] []
  refine g_iload_n C dX7_heldAll_0 rfl ?_
  refine g_callSf C hts V (gX7_heldAll_X7_isShelf) rfl hdX7_isShelf (by decide) c_X7_isShelf rfl rfl (Nat.le_of_ble_eq_true rfl) dX7_heldAll_1 ?_
  refine g_if_eq (tgt := 24) C dX7_heldAll_4 (by decide) (fun c4 => ?_) (fun c4 => ?_)
  · refine g_iconst (v := (-1)) C dX7_heldAll_24 (by decide) ?_
    exact g_iret C Rr ⟨rfl, ⟨rfl, rfl⟩⟩ dX7_heldAll_25
  · refine g_iload_n C dX7_heldAll_7 rfl ?_
    refine g_callSf C hts V (gX7_heldAll_X7_isShelf) rfl hdX7_isShelf (by decide) c_X7_isShelf rfl rfl (Nat.le_of_ble_eq_true rfl) dX7_heldAll_8 ?_
    refine g_if_eq (tgt := 24) C dX7_heldAll_11 (by decide) (fun c11 => ?_) (fun c11 => ?_)
    · refine g_iconst (v := (-1)) C dX7_heldAll_24 (by decide) ?_
      exact g_iret C Rr ⟨rfl, ⟨rfl, rfl⟩⟩ dX7_heldAll_25
    · refine g_iload_n C dX7_heldAll_14 rfl ?_
      refine g_if_lt (tgt := 24) C dX7_heldAll_15 (by decide) (fun c15 => ?_) (fun c15 => ?_)
      · refine g_iconst (v := (-1)) C dX7_heldAll_24 (by decide) ?_
        exact g_iret C Rr ⟨rfl, ⟨rfl, rfl⟩⟩ dX7_heldAll_25
      · refine g_iload_n C dX7_heldAll_18 rfl ?_
        refine g_bipush (v := 6) C dX7_heldAll_19 (by decide) ?_
        refine g_icmp_lt (tgt := 26) C dX7_heldAll_21 (by decide) (fun c21 => ?_) (fun c21 => ?_)
        · exact absurd hno (fun z => by rcases z with z | z | z | z; exact c4 z; exact c11 z; exact c15 z; exact nlt_nle c21 z)
        · refine g_iconst (v := (-1)) C dX7_heldAll_24 (by decide) ?_
          exact g_iret C Rr ⟨rfl, ⟨rfl, rfl⟩⟩ dX7_heldAll_25

set_option maxHeartbeats 4000000 in
set_option maxRecDepth 100000 in
theorem c_X7_heldAll {l : Launch} {D : va_G} {w : gw} {M : Nat → Nat → Int32} {J : Nat → Nat → Int64} {R : Nat → Nat → Option Nat} (hw : w.1 = 166) (hR : LayC R) {π : Nat → Nat} (hS : ∀ k, k < 3 → R 3 k = some (π k) ∧ isProg w R (π k)) {a b n : Nat} {P1 P2 : List act4} {Is : Nat → List Int32} {how : Int32} (ha : a < 3) (hb : b < 3) (hh0 : ¬ how < 0) (hh : how < 6) (hn : n ≤ 30) (h9 : M 0 9 = nI n) (hpa : ¬ (25 ≤ π a ∧ π a ≤ 34) ∧ (π a + 4 < 25 ∨ 34 < π a)) (hpb : ¬ (25 ≤ π b ∧ π b ≤ 34) ∧ (π b + 4 < 25 ∨ 34 < π b)) (hP1 : progIs M (π a) P1) (hP2 : progIs M (π b) P2) (hL1 : okL P1) (hL2 : okL P2) (hI : ∀ i, i < n → rowIs M (74 + 2 * i) (Is i)) : Ct l yX7_heldAll wsX7_heldAll ({ frames := 5, cells := 0, slots := 0, locals := 122 } : Room) D w [.ref (w.2.1 0), .int (nI a), .int (nI b), .int how] (M, J, R) (fun v u => v = some (.int (nI (cntH (fun k => HELD P1 P2 (Is k)) how n))) ∧ u.2.1 = J ∧ u.2.2 = R ∧ ∀ x y, ¬ (25 ≤ x ∧ x ≤ 34) → u.1 x y = M x y) := by
  refine Cg.of (own := RX7) (cc := cX7_heldAll) (maxL := 6) (ret := (some .int)) 2 (by decide) rfl rfl (Nat.le_of_ble_eq_true rfl) (fun X C hts V Rr => ?_)
  have F7 : FW X 7 := fun q h => hts q (List.mem_cons_of_mem _ (List.mem_append_left _ (List.mem_append_left _ (List.mem_append_left _ (List.mem_append_right _ h)))))
  have F0 : FW X 0 := fun q h => hts q (List.mem_cons_of_mem _ (List.mem_append_left _ (List.mem_append_left _ (List.mem_append_right _ h))))
  have F2 : FW X 2 := fun q h => hts q (List.mem_cons_of_mem _ (List.mem_append_left _ (List.mem_append_right _ h)))
  have F3 : FW X 3 := fun q h => hts q (List.mem_cons_of_mem _ (List.mem_append_right _ h))
  show Gj X 0 0 w M J R 0 [some (.ref (w.2.1 0)), some (.int (nI a)), some (.int (nI b)), some (.int how), none, none] []
  have loop : ∀ dd j M0, j + dd = n → (∀ x y, ¬ (25 ≤ x ∧ x ≤ 34) → M0 x y = M x y) → Gj X 0 0 w M0 J R 32 [some (.ref (w.2.1 0)), some (.int (nI a)), some (.int (nI b)), some (.int how), some (.int (nI (cntH (fun k => HELD P1 P2 (Is k)) how j))), some (.int (nI j))] [] := by
    intro dd
    induction dd with
    | zero =>
      intro j M0 hj hF0
      obtain rfl : j = n := by omega
      refine g_iload C dX7_heldAll_32 rfl ?_
      refine g_aload_n C dX7_heldAll_34 rfl ?_
      refine g_geti (v := nI j) C F7 (by rw [hw]; decide) rfl (by decide) 9 (by decide) rfl (hts (.fieldLink RX7 62 "FallBench" "inputCount" "I") (by decide +kernel)) rfl (by rw [hF0 0 9 (by omega)]; exact h9) dX7_heldAll_35 ?_
      refine g_icmp_ge (tgt := 62) C dX7_heldAll_38 (by decide) (fun c38 => ?_) (fun c38 => absurd c38 (not_not_intro (nI_le (Nat.le_refl _) (by omega))))
      refine g_iload C dX7_heldAll_62 rfl ?_
      exact g_iret C Rr ⟨rfl, ⟨rfl, rfl, rfl, hF0⟩⟩ dX7_heldAll_64
    | succ dd ih =>
      intro j M0 hj hF0
      have hle := cntH_le (fun k => HELD P1 P2 (Is k)) how j
      refine g_iload C dX7_heldAll_32 rfl ?_
      refine g_aload_n C dX7_heldAll_34 rfl ?_
      refine g_geti (v := nI n) C F7 (by rw [hw]; decide) rfl (by decide) 9 (by decide) rfl (hts (.fieldLink RX7 62 "FallBench" "inputCount" "I") (by decide +kernel)) rfl (by rw [hF0 0 9 (by omega)]; exact h9) dX7_heldAll_35 ?_
      refine g_icmp_ge (tgt := 62) C dX7_heldAll_38 (by decide) (fun c38 => absurd c38 (nI_ge (by omega) (by omega))) (fun c38 => ?_)
      refine g_aload_n C dX7_heldAll_41 rfl ?_
      refine g_iload_n C dX7_heldAll_42 rfl ?_
      refine g_iload_n C dX7_heldAll_43 rfl ?_
      refine g_iload C dX7_heldAll_44 rfl ?_
      refine g_callVt C hts V (i := 0) (gX7_heldAll_X7_holdOne) rfl hdX7_holdOne (by decide) (c_X7_holdOne hw hR hS ha hb hn (show j < n by omega) (hP1.o (fun x y h1 h2 => hF0 x y (by omega))) (hP2.o (fun x y h1 h2 => hF0 x y (by omega))) hL1 hL2 ((hI j (by omega)).o (fun x y h1 h2 => hF0 x y (by omega)))) (by rw [hw]; decide) rfl (by decide) rfl rfl (Nat.le_of_ble_eq_true rfl) dX7_heldAll_46 (fun v M1 J1 R1 h => ?_)
      obtain ⟨h0, hJ, hR1, hF⟩ := h
      subst h0
      have hJ := Eq.symm hJ
      subst hJ
      have hR1 := Eq.symm hR1
      subst hR1
      try dsimp only at hF
      show Gj X 0 0 w M1 J R 49 _ (.int (HELD P1 P2 (Is j)) :: [])
      refine g_iload_n C dX7_heldAll_49 rfl ?_
      refine g_icmp_ne (tgt := 56) C dX7_heldAll_50 (by decide) (fun c50 => ?_) (fun c50 => ?_)
      · refine g_iinc (v := nI (j + 1)) C V.2.1 dX7_heldAll_56 rfl (nI_succ j).symm (by decide) rfl ?_
        refine g_goto (tgt := 32) C dX7_heldAll_59 (by decide) ?_
        have e9 : cntH (fun k => HELD P1 P2 (Is k)) how (j + 1) = cntH (fun k => HELD P1 P2 (Is k)) how j + 0 := by simp only [cntH, if_neg c50]
        have q9 := ih (j + 1) M1 (by omega) (fun x y h => (hF x y h).trans (hF0 x y h))
        rw [e9] at q9
        exact q9
      · refine g_iinc (v := nI ((cntH (fun k => HELD P1 P2 (Is k)) how j) + 1)) C V.2.1 dX7_heldAll_53 rfl (nI_succ _).symm (by decide) rfl ?_
        refine g_iinc (v := nI (j + 1)) C V.2.1 dX7_heldAll_56 rfl (nI_succ j).symm (by decide) rfl ?_
        refine g_goto (tgt := 32) C dX7_heldAll_59 (by decide) ?_
        have e9 : cntH (fun k => HELD P1 P2 (Is k)) how (j + 1) = cntH (fun k => HELD P1 P2 (Is k)) how j + 1 := by simp only [cntH, if_pos c50]
        have q9 := ih (j + 1) M1 (by omega) (fun x y h => (hF x y h).trans (hF0 x y h))
        rw [e9] at q9
        exact q9
  refine g_iload_n C dX7_heldAll_0 rfl ?_
  refine g_callSf C hts V (gX7_heldAll_X7_isShelf) rfl hdX7_isShelf (by decide) c_X7_isShelf rfl rfl (Nat.le_of_ble_eq_true rfl) dX7_heldAll_1 ?_
  refine g_if_eq (tgt := 24) C dX7_heldAll_4 (by decide) (fun c4 => absurd c4 (isSh_n ha)) (fun c4 => ?_)
  refine g_iload_n C dX7_heldAll_7 rfl ?_
  refine g_callSf C hts V (gX7_heldAll_X7_isShelf) rfl hdX7_isShelf (by decide) c_X7_isShelf rfl rfl (Nat.le_of_ble_eq_true rfl) dX7_heldAll_8 ?_
  refine g_if_eq (tgt := 24) C dX7_heldAll_11 (by decide) (fun c11 => absurd c11 (isSh_n hb)) (fun c11 => ?_)
  refine g_iload_n C dX7_heldAll_14 rfl ?_
  refine g_if_lt (tgt := 24) C dX7_heldAll_15 (by decide) (fun c15 => absurd c15 hh0) (fun c15 => ?_)
  refine g_iload_n C dX7_heldAll_18 rfl ?_
  refine g_bipush (v := 6) C dX7_heldAll_19 (by decide) ?_
  refine g_icmp_lt (tgt := 26) C dX7_heldAll_21 (by decide) (fun c21 => ?_) (fun c21 => absurd c21 (not_not_intro hh))
  refine g_iconst (v := 0) C dX7_heldAll_26 (by decide) ?_
  refine g_istore C V.2.1 dX7_heldAll_27 (by decide) rfl ?_
  refine g_iconst (v := 0) C dX7_heldAll_29 (by decide) ?_
  refine g_istore C V.2.1 dX7_heldAll_30 (by decide) rfl ?_
  exact loop n 0 M (by omega) (fun _ _ _ => rfl)

set_option maxHeartbeats 4000000 in
set_option maxRecDepth 100000 in
theorem c_X8_areOutsAlike {l : Launch} {D : va_G} {w : gw} {M : Nat → Nat → Int32} {J : Nat → Nat → Int64} {R : Nat → Nat → Option Nat} (hw : w.1 = 166) (hR : LayM R) {c : Nat} (hc2 : c < 2000) : Cf l yX8_areOutsAlike wsX8_areOutsAlike ({ frames := 0, cells := 0, slots := 0, locals := 0 } : Room) D w [.ref (w.2.1 134), .int (nI c)] M J R (some (.int (if tS (nI c) (M 134 36) (M 152) (M 165) then 1 else 0))) M J R := by
  refine Cg.of (own := RX8) (cc := cX8_areOutsAlike) (maxL := 3) (ret := (some .boolean)) 1 (by decide) rfl rfl (Nat.le_of_ble_eq_true rfl) (fun X C hts V Rr => ?_)
  have F8 : FW X 8 := fun q h => hts q (List.mem_cons_of_mem _ (List.mem_append_right _ h))
  show Gj X 0 0 w M J R 0 [some (.ref (w.2.1 134)), some (.int (nI c)), none] []
  have loop : nI c = M 134 36 → ∀ dd j, j + dd = 40 → (∀ b, b < j → nI b < nI c → M 152 b = M 165 b) → Gj X 0 0 w M J R 12 [some (.ref (w.2.1 134)), some (.int (nI c)), some (.int (nI j))] [] := by
    intro he dd
    induction dd with
    | zero =>
      intro j hj hv
      refine g_iload_n C dX8_areOutsAlike_12 rfl ?_
      refine g_iload_n C dX8_areOutsAlike_13 rfl ?_
      refine g_icmp_ge (tgt := 46) C dX8_areOutsAlike_14 (by decide) (fun c14 => ?_) (fun c14 => ?_)
      · refine g_iconst (v := 1) C dX8_areOutsAlike_46 (by decide) ?_
        exact g_zret C Rr rfl ⟨rfl, ⟨by rw [if_pos ⟨he, fun b hb hb2 => hv b (by omega) hb2⟩], rfl⟩⟩ dX8_areOutsAlike_47
      · refine g_iload_n C dX8_areOutsAlike_17 rfl ?_
        refine g_bipush (v := 40) C dX8_areOutsAlike_18 (by decide) ?_
        refine g_icmp_ge (tgt := 46) C dX8_areOutsAlike_20 (by decide) (fun c20 => ?_) (fun c20 => absurd c20 (not_not_intro (show (40 : Int32) ≤ nI j from nI_le (a := 40) (by omega) (by omega))))
        refine g_iconst (v := 1) C dX8_areOutsAlike_46 (by decide) ?_
        exact g_zret C Rr rfl ⟨rfl, ⟨by rw [if_pos ⟨he, fun b hb hb2 => hv b (by omega) hb2⟩], rfl⟩⟩ dX8_areOutsAlike_47
    | succ dd ih =>
      intro j hj hv
      refine g_iload_n C dX8_areOutsAlike_12 rfl ?_
      refine g_iload_n C dX8_areOutsAlike_13 rfl ?_
      refine g_icmp_ge (tgt := 46) C dX8_areOutsAlike_14 (by decide) (fun c14 => ?_) (fun c14 => ?_)
      · refine g_iconst (v := 1) C dX8_areOutsAlike_46 (by decide) ?_
        exact g_zret C Rr rfl ⟨rfl, ⟨by rw [if_pos ⟨he, fun b hb hb2 => hv b (by have := (nI_leI (by omega) (by omega)).mp c14; have := (nI_ltI (by omega) (by omega)).mp hb2; omega) hb2⟩], rfl⟩⟩ dX8_areOutsAlike_47
      · refine g_iload_n C dX8_areOutsAlike_17 rfl ?_
        refine g_bipush (v := 40) C dX8_areOutsAlike_18 (by decide) ?_
        refine g_icmp_ge (tgt := 46) C dX8_areOutsAlike_20 (by decide) (fun c20 => absurd c20 (fun y => absurd ((nI_leI (a := 40) (b := j) (by decide) (by omega)).mp y) (by omega))) (fun c20 => ?_)
        refine g_aload_n C dX8_areOutsAlike_23 rfl ?_
        refine g_getr (j := 152) C F8 (by rw [hw]; decide) rfl (by decide) 28 (by decide) rfl (hts (.fieldLink RX8 67 "FallBenchModel" "outs" "[I") (by decide +kernel)) rfl (hR (28, 152) (by decide)) dX8_areOutsAlike_24 ?_
        refine g_iload_n C dX8_areOutsAlike_27 rfl ?_
        refine g_iald (v := M 152 j) C (by rw [hw]; decide) rfl (vp_in_nI (N := 40) (by omega) (by decide)) (by rw [nI_clamp (by omega)]) dX8_areOutsAlike_28 ?_
        refine g_aload_n C dX8_areOutsAlike_29 rfl ?_
        refine g_getr (j := 165) C F8 (by rw [hw]; decide) rfl (by decide) 59 (by decide) rfl (hts (.fieldLink RX8 109 "FallBenchModel" "otherOuts" "[I") (by decide +kernel)) rfl (hR (59, 165) (by decide)) dX8_areOutsAlike_30 ?_
        refine g_iload_n C dX8_areOutsAlike_33 rfl ?_
        refine g_iald (v := M 165 j) C (by rw [hw]; decide) rfl (vp_in_nI (N := 40) (by omega) (by decide)) (by rw [nI_clamp (by omega)]) dX8_areOutsAlike_34 ?_
        refine g_icmp_eq (tgt := 40) C dX8_areOutsAlike_35 (by decide) (fun c35 => ?_) (fun c35 => ?_)
        · refine g_iinc (v := nI (j + 1)) C V.2.1 dX8_areOutsAlike_40 rfl (nI_succ j).symm (by decide) rfl ?_
          refine g_goto (tgt := 12) C dX8_areOutsAlike_43 (by decide) ?_
          exact ih (j + 1) (by omega) (fun b hb hb2 => by rcases Nat.lt_or_ge b j with y | y; exact hv b y hb2; rw [show b = j by omega]; exact c35)
        · refine g_iconst (v := 0) C dX8_areOutsAlike_38 (by decide) ?_
          exact g_zret C Rr rfl ⟨rfl, ⟨by rw [if_neg (fun z => c35 (z.2 j (by omega) (lt_of_nle c14)))], rfl⟩⟩ dX8_areOutsAlike_39
  refine g_iload_n C dX8_areOutsAlike_0 rfl ?_
  refine g_aload_n C dX8_areOutsAlike_1 rfl ?_
  refine g_geti C F8 (by rw [hw]; decide) rfl (by decide) 36 (by decide) rfl (hts (.fieldLink RX8 252 "FallBenchModel" "outMany" "I") (by decide +kernel)) rfl rfl dX8_areOutsAlike_2 ?_
  refine g_icmp_eq (tgt := 10) C dX8_areOutsAlike_5 (by decide) (fun c5 => ?_) (fun c5 => ?_)
  · refine g_iconst (v := 0) C dX8_areOutsAlike_10 (by decide) ?_
    refine g_istore_n C V.2.1 dX8_areOutsAlike_11 (by decide) rfl ?_
    exact loop c5 40 0 (by decide) (fun b hb => absurd hb (by omega))
  · refine g_iconst (v := 0) C dX8_areOutsAlike_8 (by decide) ?_
    exact g_zret C Rr rfl ⟨rfl, ⟨by rw [if_neg (fun z => c5 z.1)], rfl⟩⟩ dX8_areOutsAlike_9

set_option maxHeartbeats 4000000 in
set_option maxRecDepth 100000 in
theorem c_X8_held_no {l : Launch} {D : va_G} {w : gw} {M : Nat → Nat → Int32} {J : Nat → Nat → Int64} {R : Nat → Nat → Option Nat} (hw : w.1 = 166) (hR : LayM R) {a b i : Int32} (hno : isSh a = 0 ∨ isSh b = 0 ∨ isIn (M 134 23) i = 0) : Cf l yX8_held wsX8_held ({ frames := 3, cells := 0, slots := 0, locals := 75 } : Room) D w [.ref (w.2.1 134), .int a, .int b, .int i] M J R (some (.int (-1))) M J R := by
  refine Cg.of (own := RX8) (cc := cX8_held) (maxL := 7) (ret := (some .int)) 3 (by decide) rfl rfl (Nat.le_of_ble_eq_true rfl) (fun X C hts V Rr => ?_)
  have F8 : FW X 8 := fun q h => hts q (List.mem_cons_of_mem _ (List.mem_append_right _ h))
  show Gj X 0 0 w M J R 0 [some (.ref (w.2.1 134)), some (.int a), some (.int b), some (.int i), none, none, none] []
  refine g_iload_n C dX8_held_0 rfl ?_
  refine g_callSf C hts V (gX8_held_X8_isShelf) rfl hdX8_isShelf (by decide) c_X8_isShelf rfl rfl (Nat.le_of_ble_eq_true rfl) dX8_held_1 ?_
  refine g_if_eq (tgt := 22) C dX8_held_4 (by decide) (fun c4 => ?_) (fun c4 => ?_)
  · refine g_iconst (v := (-1)) C dX8_held_22 (by decide) ?_
    exact g_iret C Rr ⟨rfl, ⟨rfl, rfl⟩⟩ dX8_held_23
  · refine g_iload_n C dX8_held_7 rfl ?_
    refine g_callSf C hts V (gX8_held_X8_isShelf) rfl hdX8_isShelf (by decide) c_X8_isShelf rfl rfl (Nat.le_of_ble_eq_true rfl) dX8_held_8 ?_
    refine g_if_eq (tgt := 22) C dX8_held_11 (by decide) (fun c11 => ?_) (fun c11 => ?_)
    · refine g_iconst (v := (-1)) C dX8_held_22 (by decide) ?_
      exact g_iret C Rr ⟨rfl, ⟨rfl, rfl⟩⟩ dX8_held_23
    · refine g_aload_n C dX8_held_14 rfl ?_
      refine g_iload_n C dX8_held_15 rfl ?_
      refine g_callVf C hts V (i := 134) (gX8_held_X8_isInput) rfl hdX8_isInput (by decide) (c_X8_isInput hw hR) (by rw [hw]; decide) rfl (by decide) rfl rfl (Nat.le_of_ble_eq_true rfl) dX8_held_16 ?_
      refine g_if_ne (tgt := 24) C dX8_held_19 (by decide) (fun c19 => ?_) (fun c19 => ?_)
      · exact absurd hno (fun z => by rcases z with z | z | z; exact c4 z; exact c11 z; exact c19 z)
      · refine g_iconst (v := (-1)) C dX8_held_22 (by decide) ?_
        exact g_iret C Rr ⟨rfl, ⟨rfl, rfl⟩⟩ dX8_held_23

set_option maxHeartbeats 4000000 in
set_option maxRecDepth 100000 in
theorem c_X8_held {l : Launch} {D : va_G} {w : gw} {M : Nat → Nat → Int32} {J : Nat → Nat → Int64} {R : Nat → Nat → Option Nat} (hw : w.1 = 166) (hR : LayM R) {a b i n : Nat} {P1 P2 : List act4} {I : List Int32} (ha : a < 3) (hb : b < 3) (hn : n ≤ 30) (h9 : M 134 23 = nI n) (hi : i < n) (hP1 : progN M a P1) (hP2 : progN M b P2) (hL1 : okL2 P1) (hL2 : okL2 P2) (hA : inAtM M i I) (hB : okI I) : Ct l yX8_held wsX8_held ({ frames := 3, cells := 0, slots := 0, locals := 75 } : Room) D w [.ref (w.2.1 134), .int (nI a), .int (nI b), .int (nI i)] (M, J, R) (fun v u => v = some (.int (HELD P1 P2 I)) ∧ u.2.1 = J ∧ u.2.2 = R ∧ ∀ x y, ¬ (x = 134 ∧ 29 ≤ y ∧ y ≤ 38) → ¬ (148 ≤ x ∧ x ≤ 152) → x ≠ 165 → u.1 x y = M x y) := by
  refine Cg.of (own := RX8) (cc := cX8_held) (maxL := 7) (ret := (some .int)) 3 (by decide) rfl rfl (Nat.le_of_ble_eq_true rfl) (fun X C hts V Rr => ?_)
  have F8 : FW X 8 := fun q h => hts q (List.mem_cons_of_mem _ (List.mem_append_right _ h))
  show Gj X 0 0 w M J R 0 [some (.ref (w.2.1 134)), some (.int (nI a)), some (.int (nI b)), some (.int (nI i)), none, none, none] []
  obtain ⟨c, hc, hc4⟩ := run_told P1 I
  have fin : ∀ M0 j, rF M M0 → progN M0 b P2 → inN M0 I → Qk (RUN P1 I) (winM M0) → (∀ k, k < 40 → k < c → k < j) → Gj X 0 0 w (f_mem M0 165 0 (fun k => M0 152 k) j) J R 83 [some (.ref (w.2.1 134)), some (.int (nI a)), some (.int (nI b)), some (.int (nI i)), some (.int (RUN P1 I 0 7)), some (.int (nI c)), some (.int (nI j))] [] := by
    intro M0 j hF0 hP hI hQ0 hj
    have o : ∀ x y, x ≠ 165 → f_mem M0 165 0 (fun k => M0 152 k) j x y = M0 x y := fun x y h => f_mem_o _ _ _ h
    refine g_aload_n C dX8_held_83 rfl ?_
    refine g_iload_n C dX8_held_84 rfl ?_
    refine g_callVt C hts V (i := 134) (gX8_held_X8_runOn) rfl hdX8_runOn (by decide) (c_X8_runOn hw hR hb (show progN (f_mem M0 165 0 (fun k => M0 152 k) j) b P2 from ⟨hP.1, by rw [o _ _ (by decide)]; exact hP.2.1, fun k hk => by rw [o _ _ (by decide), o _ _ (by decide), o _ _ (by decide), o _ _ (by decide)]; exact hP.2.2 k hk⟩) (show inN (f_mem M0 165 0 (fun k => M0 152 k) j) I from ⟨by rw [o _ _ (by decide)]; exact hI.1, fun k hk => by rw [o _ _ (by decide)]; exact hI.2 k hk⟩) hL2 hB) (by rw [hw]; decide) rfl (by decide) rfl rfl (Nat.le_of_ble_eq_true rfl) dX8_held_85 (fun v M1 J1 R1 h => ?_)
    obtain ⟨h0, hJ, hR1, hF, hQ⟩ := h
    subst h0
    have hJ := Eq.symm hJ
    subst hJ
    have hR1 := Eq.symm hR1
    subst hR1
    try dsimp only at hF hQ
    have hfr : ∀ x y, ¬ (x = 134 ∧ 29 ≤ y ∧ y ≤ 38) → ¬ (148 ≤ x ∧ x ≤ 152) → x ≠ 165 → M1 x y = M x y := fun x y h1 h2 h3 => by rw [hF x y (by omega) (by omega), o x y h3]; exact hF0 x y h1 h2
    have hts2 : tS (nI c) (M1 134 36) (M1 152) (M1 165) ↔ tS (RUN P1 I 0 4) (RUN P2 I 0 4) (RUN P1 I 4) (RUN P2 I 4) := by
      have e36 : M1 134 36 = RUN P2 I 0 4 := (hQ.1 4 (by decide) (by decide)).symm
      have e165 : ∀ k, k < 40 → nI k < nI c → M1 165 k = RUN P1 I 4 k := fun k hk hk2 => by
        have hkc : k < c := (nI_ltI (by omega) (by omega)).mp hk2
        rw [hF 165 k (by omega) (by omega)]
        simp only [f_mem]
        rw [if_pos ⟨trivial, Nat.zero_le _, by have := hj k hk hkc; omega⟩, Nat.sub_zero]
        exact (hQ0.2.2 k hk (by rw [hc4]; exact hk2)).symm
      have e152 : ∀ k, k < 40 → nI k < RUN P2 I 0 4 → M1 152 k = RUN P2 I 4 k := fun k hk hk2 => (hQ.2.2 k hk hk2).symm
      rw [e36, hc4]
      constructor
      · rintro ⟨y1, y2⟩
        exact ⟨y1, fun k hk hk2 => by rw [← e165 k hk hk2, ← e152 k hk (by rw [← y1]; exact hk2)]; exact (y2 k hk hk2).symm⟩
      · rintro ⟨y1, y2⟩
        exact ⟨y1, fun k hk hk2 => by rw [e165 k hk hk2, e152 k hk (by rw [← y1]; exact hk2)]; exact (y2 k hk hk2).symm⟩
    show Gj X 0 0 w M1 J R 88 [some (.ref (w.2.1 134)), some (.int (nI a)), some (.int (nI b)), some (.int (nI i)), some (.int (RUN P1 I 0 7)), some (.int (nI c)), some (.int (nI j))] []
    refine g_iload C dX8_held_88 rfl ?_
    refine g_if_ne (tgt := 115) C dX8_held_90 (by decide) (fun c90 => ?_) (fun c90 => ?_)
    · refine g_aload_n C dX8_held_115 rfl ?_
      refine g_geti (v := RUN P2 I 0 7) C F8 (by rw [hw]; decide) rfl (by decide) 30 (by decide) rfl (hts (.fieldLink RX8 234 "FallBenchModel" "ended" "I") (by decide +kernel)) rfl (hQ.1 7 (by decide) (by decide)).symm dX8_held_116 ?_
      refine g_if_ne (tgt := 126) C dX8_held_119 (by decide) (fun c119 => ?_) (fun c119 => ?_)
      · refine g_iload C dX8_held_126 rfl ?_
        refine g_if_ne (tgt := 135) C dX8_held_128 (by decide) (fun c128 => ?_) (fun c128 => absurd c128 c90)
        refine g_iload C dX8_held_135 rfl ?_
        refine g_aload_n C dX8_held_137 rfl ?_
        refine g_geti (v := RUN P2 I 0 7) C F8 (by rw [hw]; decide) rfl (by decide) 30 (by decide) rfl (hts (.fieldLink RX8 234 "FallBenchModel" "ended" "I") (by decide +kernel)) rfl (hQ.1 7 (by decide) (by decide)).symm dX8_held_138 ?_
        refine g_icmp_ne (tgt := 148) C dX8_held_141 (by decide) (fun c141 => ?_) (fun c141 => ?_)
        · refine g_iconst (v := 5) C dX8_held_148 (by decide) ?_
          exact g_iret C Rr ⟨rfl, ⟨by simp only [HELD]; rw [if_neg c90, if_neg c119, if_neg c141], rfl, rfl, hfr⟩⟩ dX8_held_149
        · refine g_iconst (v := 4) C dX8_held_144 (by decide) ?_
          refine g_goto (tgt := 149) C dX8_held_145 (by decide) ?_
          exact g_iret C Rr ⟨rfl, ⟨by simp only [HELD]; rw [if_neg c90, if_neg c119, if_pos c141], rfl, rfl, hfr⟩⟩ dX8_held_149
      · refine g_iconst (v := 2) C dX8_held_122 (by decide) ?_
        refine g_goto (tgt := 149) C dX8_held_123 (by decide) ?_
        exact g_iret C Rr ⟨rfl, ⟨by simp only [HELD]; rw [if_neg c90, if_pos c119], rfl, rfl, hfr⟩⟩ dX8_held_149
    · refine g_aload_n C dX8_held_93 rfl ?_
      refine g_geti (v := RUN P2 I 0 7) C F8 (by rw [hw]; decide) rfl (by decide) 30 (by decide) rfl (hts (.fieldLink RX8 234 "FallBenchModel" "ended" "I") (by decide +kernel)) rfl (hQ.1 7 (by decide) (by decide)).symm dX8_held_94 ?_
      refine g_if_ne (tgt := 115) C dX8_held_97 (by decide) (fun c97 => ?_) (fun c97 => ?_)
      · refine g_aload_n C dX8_held_115 rfl ?_
        refine g_geti (v := RUN P2 I 0 7) C F8 (by rw [hw]; decide) rfl (by decide) 30 (by decide) rfl (hts (.fieldLink RX8 234 "FallBenchModel" "ended" "I") (by decide +kernel)) rfl (hQ.1 7 (by decide) (by decide)).symm dX8_held_116 ?_
        refine g_if_ne (tgt := 126) C dX8_held_119 (by decide) (fun c119 => ?_) (fun c119 => absurd c119 c97)
        refine g_iload C dX8_held_126 rfl ?_
        refine g_if_ne (tgt := 135) C dX8_held_128 (by decide) (fun c128 => absurd c128 (not_not_intro c90)) (fun c128 => ?_)
        refine g_iconst (v := 3) C dX8_held_131 (by decide) ?_
        refine g_goto (tgt := 149) C dX8_held_132 (by decide) ?_
        exact g_iret C Rr ⟨rfl, ⟨by simp only [HELD]; rw [if_pos c90, if_neg c97], rfl, rfl, hfr⟩⟩ dX8_held_149
      · refine g_aload_n C dX8_held_100 rfl ?_
        refine g_iload C dX8_held_101 rfl ?_
        refine g_callVf C hts V (i := 134) (gX8_held_X8_areOutsAlike) rfl hdX8_areOutsAlike (by decide) (Cf.to (c_X8_areOutsAlike hw hR hc) (congrArg (fun z => some (Value.int z)) (ite_iff hts2 1 0)) rfl) (by rw [hw]; decide) rfl (by decide) rfl rfl (Nat.le_of_ble_eq_true rfl) dX8_held_103 ?_
        refine g_if_eq (tgt := 113) C dX8_held_106 (by decide) (fun c106 => ?_) (fun c106 => ?_)
        · refine g_iconst (v := 1) C dX8_held_113 (by decide) ?_
          exact g_iret C Rr ⟨rfl, ⟨by simp only [HELD]; rw [if_pos c90, if_pos c97, if_neg (fun y => by rw [if_pos y] at c106; exact absurd c106 (by decide))], rfl, rfl, hfr⟩⟩ dX8_held_114
        · refine g_iconst (v := 0) C dX8_held_109 (by decide) ?_
          refine g_goto (tgt := 114) C dX8_held_110 (by decide) ?_
          exact g_iret C Rr ⟨rfl, ⟨by simp only [HELD]; rw [if_pos c90, if_pos c97, if_pos (Classical.byContradiction (fun y => c106 (by rw [if_neg y])))], rfl, rfl, hfr⟩⟩ dX8_held_114
  have loop : ∀ M0, rF M M0 → progN M0 b P2 → inN M0 I → Qk (RUN P1 I) (winM M0) → ∀ dd j, j + dd = 40 → Gj X 0 0 w (f_mem M0 165 0 (fun k => M0 152 k) j) J R 49 [some (.ref (w.2.1 134)), some (.int (nI a)), some (.int (nI b)), some (.int (nI i)), some (.int (RUN P1 I 0 7)), some (.int (nI c)), some (.int (nI j))] [] := by
    intro M0 hF0 hP hI hQ0 dd
    induction dd with
    | zero =>
      intro j hj
      refine g_iload C dX8_held_49 rfl ?_
      refine g_iload C dX8_held_51 rfl ?_
      refine g_icmp_ge (tgt := 83) C dX8_held_53 (by decide) (fun c53 => ?_) (fun c53 => ?_)
      · have q9 := (nI_leI (by omega) (by omega)).mp c53
        exact fin M0 j hF0 hP hI hQ0 (fun k h1 h2 => by omega)
      · refine g_iload C dX8_held_56 rfl ?_
        refine g_bipush (v := 40) C dX8_held_58 (by decide) ?_
        refine g_icmp_ge (tgt := 83) C dX8_held_60 (by decide) (fun c60 => ?_) (fun c60 => absurd c60 (not_not_intro (show (40 : Int32) ≤ nI j from nI_le (a := 40) (by omega) (by omega))))
        exact fin M0 j hF0 hP hI hQ0 (fun k h1 h2 => by omega)
    | succ dd ih =>
      intro j hj
      refine g_iload C dX8_held_49 rfl ?_
      refine g_iload C dX8_held_51 rfl ?_
      refine g_icmp_ge (tgt := 83) C dX8_held_53 (by decide) (fun c53 => ?_) (fun c53 => ?_)
      · have q9 := (nI_leI (by omega) (by omega)).mp c53
        exact fin M0 j hF0 hP hI hQ0 (fun k h1 h2 => by omega)
      · refine g_iload C dX8_held_56 rfl ?_
        refine g_bipush (v := 40) C dX8_held_58 (by decide) ?_
        refine g_icmp_ge (tgt := 83) C dX8_held_60 (by decide) (fun c60 => absurd c60 (fun y => absurd ((nI_leI (a := 40) (b := j) (by decide) (by omega)).mp y) (by omega))) (fun c60 => ?_)
        refine g_aload_n C dX8_held_63 rfl ?_
        refine g_getr (j := 165) C F8 (by rw [hw]; decide) rfl (by decide) 59 (by decide) rfl (hts (.fieldLink RX8 109 "FallBenchModel" "otherOuts" "[I") (by decide +kernel)) rfl (hR (59, 165) (by decide)) dX8_held_64 ?_
        refine g_iload C dX8_held_67 rfl ?_
        refine g_aload_n C dX8_held_69 rfl ?_
        refine g_getr (j := 152) C F8 (by rw [hw]; decide) rfl (by decide) 28 (by decide) rfl (hts (.fieldLink RX8 67 "FallBenchModel" "outs" "[I") (by decide +kernel)) rfl (hR (28, 152) (by decide)) dX8_held_70 ?_
        refine g_iload C dX8_held_73 rfl ?_
        refine g_iald (v := M0 152 j) C (by rw [hw]; decide) rfl (vp_in_nI (N := 40) (by omega) (by decide)) (by rw [nI_clamp (by omega), f_mem_o _ _ _ (by decide)]) dX8_held_75 ?_
        refine g_iast C (by rw [hw]; decide) rfl (vp_in_nI (N := 40) (by omega) (by decide)) dX8_held_76 ?_
        refine g_iinc (v := nI (j + 1)) C V.2.1 dX8_held_77 rfl (nI_succ j).symm (by decide) rfl ?_
        refine g_goto (tgt := 49) C dX8_held_80 (by decide) ?_
        refine Gj_mem (M' := f_mem M0 165 0 (fun k => M0 152 k) (j + 1)) (by rw [nI_clamp (by omega), ← f_mem_s, Nat.zero_add]) ?_
        exact ih (j + 1) (by omega)
  refine g_iload_n C dX8_held_0 rfl ?_
  refine g_callSf C hts V (gX8_held_X8_isShelf) rfl hdX8_isShelf (by decide) c_X8_isShelf rfl rfl (Nat.le_of_ble_eq_true rfl) dX8_held_1 ?_
  refine g_if_eq (tgt := 22) C dX8_held_4 (by decide) (fun c4 => absurd c4 (isSh_n ha)) (fun c4 => ?_)
  refine g_iload_n C dX8_held_7 rfl ?_
  refine g_callSf C hts V (gX8_held_X8_isShelf) rfl hdX8_isShelf (by decide) c_X8_isShelf rfl rfl (Nat.le_of_ble_eq_true rfl) dX8_held_8 ?_
  refine g_if_eq (tgt := 22) C dX8_held_11 (by decide) (fun c11 => absurd c11 (isSh_n hb)) (fun c11 => ?_)
  refine g_aload_n C dX8_held_14 rfl ?_
  refine g_iload_n C dX8_held_15 rfl ?_
  refine g_callVf C hts V (i := 134) (gX8_held_X8_isInput) rfl hdX8_isInput (by decide) (c_X8_isInput hw hR) (by rw [hw]; decide) rfl (by decide) rfl rfl (Nat.le_of_ble_eq_true rfl) dX8_held_16 ?_
  refine g_if_ne (tgt := 24) C dX8_held_19 (by decide) (fun c19 => ?_) (fun c19 => absurd c19 (by rw [h9]; exact isIn_n hn hi))
  refine g_aload_n C dX8_held_24 rfl ?_
  refine g_iload_n C dX8_held_25 rfl ?_
  refine g_callVf C hts V (i := 134) (gX8_held_X8_use) rfl hdX8_use (by decide) (c_X8_use hw hR (by omega) hA.1 hB.1) (by rw [hw]; decide) rfl (by decide) rfl rfl (Nat.le_of_ble_eq_true rfl) dX8_held_26 ?_
  refine g_aload_n C dX8_held_29 rfl ?_
  refine g_iload_n C dX8_held_30 rfl ?_
  refine g_callVt C hts V (i := 134) (gX8_held_X8_runOn) rfl hdX8_runOn (by decide) (c_X8_runOn hw hR ha (use_prog hP1) (use_in hA) hL1 hB) (by rw [hw]; decide) rfl (by decide) rfl rfl (Nat.le_of_ble_eq_true rfl) dX8_held_31 (fun v M1 J1 R1 h => ?_)
  obtain ⟨h0, hJ, hR1, hF, hQ⟩ := h
  subst h0
  have hJ := Eq.symm hJ
  subst hJ
  have hR1 := Eq.symm hR1
  subst hR1
  try dsimp only at hF hQ
  show Gj X 0 0 w M1 J R 34 [some (.ref (w.2.1 134)), some (.int (nI a)), some (.int (nI b)), some (.int (nI i)), none, none, none] []
  refine g_aload_n C dX8_held_34 rfl ?_
  refine g_geti (v := RUN P1 I 0 7) C F8 (by rw [hw]; decide) rfl (by decide) 30 (by decide) rfl (hts (.fieldLink RX8 234 "FallBenchModel" "ended" "I") (by decide +kernel)) rfl (hQ.1 7 (by decide) (by decide)).symm dX8_held_35 ?_
  refine g_istore C V.2.1 dX8_held_38 (by decide) rfl ?_
  refine g_aload_n C dX8_held_40 rfl ?_
  refine g_geti (v := nI c) C F8 (by rw [hw]; decide) rfl (by decide) 36 (by decide) rfl (hts (.fieldLink RX8 252 "FallBenchModel" "outMany" "I") (by decide +kernel)) rfl ((hQ.1 4 (by decide) (by decide)).symm.trans hc4) dX8_held_41 ?_
  refine g_istore C V.2.1 dX8_held_44 (by decide) rfl ?_
  refine g_iconst (v := 0) C dX8_held_46 (by decide) ?_
  refine g_istore C V.2.1 dX8_held_47 (by decide) rfl ?_
  refine Gj_mem (M' := f_mem M1 165 0 (fun k => M1 152 k) 0) (f_mem_0 _ _ _ _).symm ?_
  exact loop M1 (use_rF hF) ((use_prog hP2).F hF) ((use_in hA).F hF) hQ 40 0 (by decide)

set_option maxHeartbeats 4000000 in
set_option maxRecDepth 100000 in
theorem c_X8_heldAll_no {l : Launch} {D : va_G} {w : gw} {M : Nat → Nat → Int32} {J : Nat → Nat → Int64} {R : Nat → Nat → Option Nat} (hw : w.1 = 166) (hR : LayM R) {a b how : Int32} (hno : isSh a = 0 ∨ isSh b = 0 ∨ how < 0 ∨ ¬ how ≤ 5) : Cf l yX8_heldAll wsX8_heldAll ({ frames := 4, cells := 0, slots := 0, locals := 101 } : Room) D w [.ref (w.2.1 134), .int a, .int b, .int how] M J R (some (.int (-1))) M J R := by
  refine Cg.of (own := RX8) (cc := cX8_heldAll) (maxL := 6) (ret := (some .int)) 2 (by decide) rfl rfl (Nat.le_of_ble_eq_true rfl) (fun X C hts V Rr => ?_)
  have F8 : FW X 8 := fun q h => hts q (List.mem_cons_of_mem _ (List.mem_append_right _ h))
  show Gj X 0 0 w M J R 0 [some (.ref (w.2.1 134)), some (.int a), some (.int b), some (.int how), none, none] []
  refine g_iload_n C dX8_heldAll_0 rfl ?_
  refine g_callSf C hts V (gX8_heldAll_X8_isShelf) rfl hdX8_isShelf (by decide) c_X8_isShelf rfl rfl (Nat.le_of_ble_eq_true rfl) dX8_heldAll_1 ?_
  refine g_if_eq (tgt := 23) C dX8_heldAll_4 (by decide) (fun c4 => ?_) (fun c4 => ?_)
  · refine g_iconst (v := (-1)) C dX8_heldAll_23 (by decide) ?_
    exact g_iret C Rr ⟨rfl, ⟨rfl, rfl⟩⟩ dX8_heldAll_24
  · refine g_iload_n C dX8_heldAll_7 rfl ?_
    refine g_callSf C hts V (gX8_heldAll_X8_isShelf) rfl hdX8_isShelf (by decide) c_X8_isShelf rfl rfl (Nat.le_of_ble_eq_true rfl) dX8_heldAll_8 ?_
    refine g_if_eq (tgt := 23) C dX8_heldAll_11 (by decide) (fun c11 => ?_) (fun c11 => ?_)
    · refine g_iconst (v := (-1)) C dX8_heldAll_23 (by decide) ?_
      exact g_iret C Rr ⟨rfl, ⟨rfl, rfl⟩⟩ dX8_heldAll_24
    · refine g_iload_n C dX8_heldAll_14 rfl ?_
      refine g_if_lt (tgt := 23) C dX8_heldAll_15 (by decide) (fun c15 => ?_) (fun c15 => ?_)
      · refine g_iconst (v := (-1)) C dX8_heldAll_23 (by decide) ?_
        exact g_iret C Rr ⟨rfl, ⟨rfl, rfl⟩⟩ dX8_heldAll_24
      · refine g_iload_n C dX8_heldAll_18 rfl ?_
        refine g_iconst (v := 5) C dX8_heldAll_19 (by decide) ?_
        refine g_icmp_le (tgt := 25) C dX8_heldAll_20 (by decide) (fun c20 => ?_) (fun c20 => ?_)
        · exact absurd hno (fun z => by rcases z with z | z | z | z; exact c4 z; exact c11 z; exact c15 z; exact z c20)
        · refine g_iconst (v := (-1)) C dX8_heldAll_23 (by decide) ?_
          exact g_iret C Rr ⟨rfl, ⟨rfl, rfl⟩⟩ dX8_heldAll_24

theorem Gj_lv {X : gX} {a b pc : Nat} {w : gw} {M : Nat → Nat → Int32} {J : Nat → Nat → Int64} {R : Nat → Nat → Option Nat} {lv lv' : List (Option Value)} {st : List Value} (e : lv = lv') (k : Gj X a b w M J R pc lv' st) : Gj X a b w M J R pc lv st := e ▸ k

set_option maxHeartbeats 4000000 in
set_option maxRecDepth 100000 in
theorem c_X8_heldAll {l : Launch} {D : va_G} {w : gw} {M : Nat → Nat → Int32} {J : Nat → Nat → Int64} {R : Nat → Nat → Option Nat} (hw : w.1 = 166) (hR : LayM R) {a b n : Nat} {P1 P2 : List act4} {Is : Nat → List Int32} {how : Int32} (ha : a < 3) (hb : b < 3) (hh0 : ¬ how < 0) (hh : how ≤ 5) (hn : n ≤ 30) (h9 : M 134 23 = nI n) (hP1 : progN M a P1) (hP2 : progN M b P2) (hL1 : okL2 P1) (hL2 : okL2 P2) (hA : ∀ i, i < n → inAtM M i (Is i)) (hB : ∀ i, i < n → okI (Is i)) : Ct l yX8_heldAll wsX8_heldAll ({ frames := 4, cells := 0, slots := 0, locals := 101 } : Room) D w [.ref (w.2.1 134), .int (nI a), .int (nI b), .int how] (M, J, R) (fun v u => v = some (.int (nI (cntH (fun k => HELD P1 P2 (Is k)) how n))) ∧ u.2.1 = J ∧ u.2.2 = R ∧ ∀ x y, ¬ (x = 134 ∧ 29 ≤ y ∧ y ≤ 38) → ¬ (148 ≤ x ∧ x ≤ 152) → x ≠ 165 → u.1 x y = M x y) := by
  refine Cg.of (own := RX8) (cc := cX8_heldAll) (maxL := 6) (ret := (some .int)) 2 (by decide) rfl rfl (Nat.le_of_ble_eq_true rfl) (fun X C hts V Rr => ?_)
  have F8 : FW X 8 := fun q h => hts q (List.mem_cons_of_mem _ (List.mem_append_right _ h))
  show Gj X 0 0 w M J R 0 [some (.ref (w.2.1 134)), some (.int (nI a)), some (.int (nI b)), some (.int how), none, none] []
  have loop : ∀ dd j M0, j + dd = n → (∀ x y, ¬ (x = 134 ∧ 29 ≤ y ∧ y ≤ 38) → ¬ (148 ≤ x ∧ x ≤ 152) → x ≠ 165 → M0 x y = M x y) → Gj X 0 0 w M0 J R 31 [some (.ref (w.2.1 134)), some (.int (nI a)), some (.int (nI b)), some (.int how), some (.int (nI (cntH (fun k => HELD P1 P2 (Is k)) how j))), some (.int (nI j))] [] := by
    intro dd
    induction dd with
    | zero =>
      intro j M0 hj hF0
      obtain rfl : j = n := by omega
      refine g_iload C dX8_heldAll_31 rfl ?_
      refine g_aload_n C dX8_heldAll_33 rfl ?_
      refine g_geti (v := nI j) C F8 (by rw [hw]; decide) rfl (by decide) 23 (by decide) rfl (hts (.fieldLink RX8 225 "FallBenchModel" "inputMany" "I") (by decide +kernel)) rfl (by rw [hF0 134 23 (by omega) (by omega) (by omega)]; exact h9) dX8_heldAll_34 ?_
      refine g_icmp_ge (tgt := 68) C dX8_heldAll_37 (by decide) (fun c37 => ?_) (fun c37 => absurd c37 (not_not_intro (nI_le (Nat.le_refl _) (by omega))))
      refine g_iload C dX8_heldAll_68 rfl ?_
      exact g_iret C Rr ⟨rfl, ⟨rfl, rfl, rfl, hF0⟩⟩ dX8_heldAll_70
    | succ dd ih =>
      intro j M0 hj hF0
      refine g_iload C dX8_heldAll_31 rfl ?_
      refine g_aload_n C dX8_heldAll_33 rfl ?_
      refine g_geti (v := nI n) C F8 (by rw [hw]; decide) rfl (by decide) 23 (by decide) rfl (hts (.fieldLink RX8 225 "FallBenchModel" "inputMany" "I") (by decide +kernel)) rfl (by rw [hF0 134 23 (by omega) (by omega) (by omega)]; exact h9) dX8_heldAll_34 ?_
      refine g_icmp_ge (tgt := 68) C dX8_heldAll_37 (by decide) (fun c37 => absurd c37 (nI_ge (by omega) (by omega))) (fun c37 => ?_)
      refine g_iload C dX8_heldAll_40 rfl ?_
      refine g_aload_n C dX8_heldAll_42 rfl ?_
      refine g_iload_n C dX8_heldAll_43 rfl ?_
      refine g_iload_n C dX8_heldAll_44 rfl ?_
      refine g_iload C dX8_heldAll_45 rfl ?_
      refine g_callVt C hts V (i := 134) (gX8_heldAll_X8_held) rfl hdX8_held (by decide) (c_X8_held hw hR ha hb hn (by rw [hF0 134 23 (by omega) (by omega) (by omega)]; exact h9) (show j < n by omega) (show progN M0 a P1 from ⟨hP1.1, by rw [hF0 _ _ (by omega) (by omega) (by omega)]; exact hP1.2.1, fun k hk => by rw [hF0 137 _ (by omega) (by omega) (by omega), hF0 138 _ (by omega) (by omega) (by omega), hF0 139 _ (by omega) (by omega) (by omega), hF0 140 _ (by omega) (by omega) (by omega)]; exact hP1.2.2 k hk⟩) (show progN M0 b P2 from ⟨hP2.1, by rw [hF0 _ _ (by omega) (by omega) (by omega)]; exact hP2.2.1, fun k hk => by rw [hF0 137 _ (by omega) (by omega) (by omega), hF0 138 _ (by omega) (by omega) (by omega), hF0 139 _ (by omega) (by omega) (by omega), hF0 140 _ (by omega) (by omega) (by omega)]; exact hP2.2.2 k hk⟩) hL1 hL2 (show inAtM M0 j (Is j) from ⟨by rw [hF0 147 _ (by omega) (by omega) (by omega)]; exact (hA j (by omega)).1, fun k hk => by rw [hF0 146 _ (by omega) (by omega) (by omega)]; exact (hA j (by omega)).2 k hk⟩) (hB j (by omega))) (by rw [hw]; decide) rfl (by decide) rfl rfl (Nat.le_of_ble_eq_true rfl) dX8_heldAll_47 (fun v M1 J1 R1 h => ?_)
      obtain ⟨h0, hJ, hR1, hF⟩ := h
      subst h0
      have hJ := Eq.symm hJ
      subst hJ
      have hR1 := Eq.symm hR1
      subst hR1
      try dsimp only at hF
      show Gj X 0 0 w M1 J R 50 _ (.int (HELD P1 P2 (Is j)) :: .int (nI (cntH (fun k => HELD P1 P2 (Is k)) how j)) :: [])
      refine g_iload_n C dX8_heldAll_50 rfl ?_
      refine g_icmp_ne (tgt := 58) C dX8_heldAll_51 (by decide) (fun c51 => ?_) (fun c51 => ?_)
      · refine g_iconst (v := 0) C dX8_heldAll_58 (by decide) ?_
        refine g_iadd C dX8_heldAll_59 ?_
        refine g_istore C V.2.1 dX8_heldAll_60 (by decide) rfl ?_
        refine g_iinc (v := nI (j + 1)) C V.2.1 dX8_heldAll_62 rfl (nI_succ j).symm (by decide) rfl ?_
        refine g_goto (tgt := 31) C dX8_heldAll_65 (by decide) ?_
        refine Gj_lv (lv' := [some (.ref (w.2.1 134)), some (.int (nI a)), some (.int (nI b)), some (.int how), some (.int (nI (cntH (fun k => HELD P1 P2 (Is k)) how (j + 1)))), some (.int (nI (j + 1)))]) (by simp only [cntH, if_neg c51]; rw [← nI_add (cntH (fun k => HELD P1 P2 (Is k)) how j) 0]; rfl) ?_
        exact ih (j + 1) M1 (by omega) (fun x y h1 h2 h3 => (hF x y h1 h2 h3).trans (hF0 x y h1 h2 h3))
      · refine g_iconst (v := 1) C dX8_heldAll_54 (by decide) ?_
        refine g_goto (tgt := 59) C dX8_heldAll_55 (by decide) ?_
        refine g_iadd C dX8_heldAll_59 ?_
        refine g_istore C V.2.1 dX8_heldAll_60 (by decide) rfl ?_
        refine g_iinc (v := nI (j + 1)) C V.2.1 dX8_heldAll_62 rfl (nI_succ j).symm (by decide) rfl ?_
        refine g_goto (tgt := 31) C dX8_heldAll_65 (by decide) ?_
        refine Gj_lv (lv' := [some (.ref (w.2.1 134)), some (.int (nI a)), some (.int (nI b)), some (.int how), some (.int (nI (cntH (fun k => HELD P1 P2 (Is k)) how (j + 1)))), some (.int (nI (j + 1)))]) (by simp only [cntH, if_pos c51]; rw [← nI_add (cntH (fun k => HELD P1 P2 (Is k)) how j) 1]; rfl) ?_
        exact ih (j + 1) M1 (by omega) (fun x y h1 h2 h3 => (hF x y h1 h2 h3).trans (hF0 x y h1 h2 h3))
  refine g_iload_n C dX8_heldAll_0 rfl ?_
  refine g_callSf C hts V (gX8_heldAll_X8_isShelf) rfl hdX8_isShelf (by decide) c_X8_isShelf rfl rfl (Nat.le_of_ble_eq_true rfl) dX8_heldAll_1 ?_
  refine g_if_eq (tgt := 23) C dX8_heldAll_4 (by decide) (fun c4 => absurd c4 (isSh_n ha)) (fun c4 => ?_)
  refine g_iload_n C dX8_heldAll_7 rfl ?_
  refine g_callSf C hts V (gX8_heldAll_X8_isShelf) rfl hdX8_isShelf (by decide) c_X8_isShelf rfl rfl (Nat.le_of_ble_eq_true rfl) dX8_heldAll_8 ?_
  refine g_if_eq (tgt := 23) C dX8_heldAll_11 (by decide) (fun c11 => absurd c11 (isSh_n hb)) (fun c11 => ?_)
  refine g_iload_n C dX8_heldAll_14 rfl ?_
  refine g_if_lt (tgt := 23) C dX8_heldAll_15 (by decide) (fun c15 => absurd c15 hh0) (fun c15 => ?_)
  refine g_iload_n C dX8_heldAll_18 rfl ?_
  refine g_iconst (v := 5) C dX8_heldAll_19 (by decide) ?_
  refine g_icmp_le (tgt := 25) C dX8_heldAll_20 (by decide) (fun c20 => ?_) (fun c20 => absurd c20 (not_not_intro hh))
  refine g_iconst (v := 0) C dX8_heldAll_25 (by decide) ?_
  refine g_istore C V.2.1 dX8_heldAll_26 (by decide) rfl ?_
  refine g_iconst (v := 0) C dX8_heldAll_28 (by decide) ?_
  refine g_istore C V.2.1 dX8_heldAll_29 (by decide) rfl ?_
  exact loop n 0 M (by omega) (fun _ _ _ _ _ => rfl)
