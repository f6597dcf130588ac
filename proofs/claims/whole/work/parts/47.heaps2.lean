/-! HEAPS as lists of causes; the class's heaps, heap, heapOf -/
abbrev hT : Type := Nat × (Nat → Nat) × (Nat → Nat) × (Nat → Int32)
abbrev cLike (E A C : Nat → Int32) (L : Nat → Nat) (i : Nat) : Nat → Prop := fun h => E (L h) = E i ∧ A (L h) = A i ∧ C (L h) = C i
def hStep (E A C : Nat → Int32) (i : Nat) (s : hT) : hT := if E i = 0 then (s.1, s.2.1, s.2.2.1, va_up s.2.2.2 i (-1)) else match hfd (cLike E A C s.2.1 i) s.1 with
  | some h => (s.1, s.2.1, va_up s.2.2.1 h (s.2.2.1 h + 1), va_up s.2.2.2 i (nI h))
  | none => (s.1 + 1, va_up s.2.1 s.1 i, va_up s.2.2.1 s.1 1, va_up s.2.2.2 i (nI s.1))
def hAll (E A C : Nat → Int32) : Nat → hT
  | 0 => (0, fun _ => 0, fun _ => 0, fun _ => -1)
  | i + 1 => hStep E A C i (hAll E A C i)
def sIs (E A C : Nat → Int32) (M : Nat → Nat → Int32) (i : Nat) (s : hT) : Prop := M 35 6 = nI s.1 ∧ s.1 ≤ i ∧ (∀ h, h < s.1 → M 36 h = nI (s.2.1 h) ∧ M 37 h = nI (s.2.2.1 h) ∧ M 38 h = E (s.2.1 h) ∧ M 39 h = A (s.2.1 h) ∧ M 40 h = C (s.2.1 h)) ∧ ∀ k, k < i → M 41 k = s.2.2.2 k
theorem sIs.step {E A C : Nat → Int32} {M : Nat → Nat → Int32} {i m : Nat} {s : hT} (h : sIs E A C M i s) (e1 : M m 7 = E i) (e2 : M m 8 = A i) (e3 : M m 10 = C i) (n41 : m ≠ 41) (n36 : m ≠ 36) (n37 : m ≠ 37) (n38 : m ≠ 38) (n39 : m ≠ 39) : sIs E A C (s_in M m i s.1) (i + 1) (hStep E A C i s) := by
  obtain ⟨h1, h2, h3, h4⟩ := h
  have hl : hfd (sLike M m) s.1 = hfd (cLike E A C s.2.1 i) s.1 := hfd_congr s.1 (fun k hk => by
    obtain ⟨-, -, a3, a4, a5⟩ := h3 k hk
    simp only [sLike, cLike]; rw [a3, a4, a5, e1, e2, e3])
  unfold s_in hStep
  by_cases hE : E i = 0
  · rw [if_pos (e1.trans hE), if_pos hE]
    refine ⟨by rw [up2_n1 _ _ (by decide)]; exact h1, Nat.le_succ_of_le h2, fun k hk => ?_, fun k hk => ?_⟩
    · rw [up2_n1 _ _ (by decide), up2_n1 _ _ (by decide), up2_n1 _ _ (by decide), up2_n1 _ _ (by decide), up2_n1 _ _ (by decide)]; exact h3 k hk
    · by_cases e : k = i
      · subst e; rw [up2_eq]; simp [va_up]
      · rw [up2_n2 _ _ e]; simp only [va_up, if_neg e]; exact h4 k (by omega)
  rw [if_neg (fun z => hE (e1.symm.trans z)), if_neg hE]
  rcases hf : hfd (cLike E A C s.2.1 i) s.1 with _ | d
  · rw [hl.trans hf]; dsimp only
    have o : ∀ x y, x ≠ 41 → up2 M 41 i (-1) x y = M x y := fun x y hx => up2_n1 _ _ hx
    refine ⟨?_, by omega, fun k hk => ?_, fun k hk => ?_⟩
    · simp only [s_new]
      rw [up2_n1 _ _ (by decide), up2_n1 _ _ (by decide), up2_eq, nI_succ]
    · by_cases e : k = s.1
      · subst e
        simp only [va_up, if_pos]
        refine ⟨?_, ?_, ?_, ?_, ?_⟩
        · simp [s_new, up2]
        · simp [up2]; rfl
        · simp [s_new, up2, n41]; exact e1
        · simp [s_new, up2, n41]; exact e2
        · simp [s_new, up2, n41]; exact e3
      · obtain ⟨a1, a2, a3, a4, a5⟩ := h3 k (by omega)
        simp only [va_up, if_neg e]
        refine ⟨?_, ?_, ?_, ?_, ?_⟩
        · simp [s_new, up2, e]; exact a1
        · simp [s_new, up2, e]; exact a2
        · simp [s_new, up2, e]; exact a3
        · simp [s_new, up2, e]; exact a4
        · simp [s_new, up2, e]; exact a5
    · by_cases e : k = i
      · subst e; rw [up2_eq]; simp [va_up]
      · rw [up2_n2 _ _ e]; simp only [va_up, if_neg e]
        rw [up2_n1 _ _ (by decide)]
        simp only [s_new]
        rw [up2_n1 _ _ (by decide), up2_n1 _ _ (by decide), up2_n1 _ _ (by decide), up2_n1 _ _ (by decide), up2_n1 _ _ (by decide), up2_n1 _ _ (by decide), up2_n2 _ _ e]
        exact h4 k (by omega)
  · rw [hl.trans hf]; dsimp only
    have hd := (hfd_spec hf).1
    refine ⟨by rw [up2_n1 _ _ (by decide), up2_n1 _ _ (by decide), up2_n1 _ _ (by decide)]; exact h1, Nat.le_succ_of_le h2, fun k hk => ?_, fun k hk => ?_⟩
    · obtain ⟨a1, a2, a3, a4, a5⟩ := h3 k hk
      refine ⟨?_, ?_, ?_, ?_, ?_⟩
      · simp [up2]; exact a1
      · by_cases e : k = d
        · subst e; simp only [va_up, if_pos]; simp [up2]; rw [a2, nI_succ]
        · simp only [va_up, if_neg e]; simp [up2, e]; exact a2
      · simp [up2]; exact a3
      · simp [up2]; exact a4
      · simp [up2]; exact a5
    · by_cases e : k = i
      · subst e; rw [up2_eq]; simp [va_up]
      · rw [up2_n2 _ _ e]; simp only [va_up, if_neg e]
        rw [up2_n1 _ _ (by decide), up2_n2 _ _ e]; exact h4 k (by omega)
theorem sIs.o {E A C : Nat → Int32} {M M' : Nat → Nat → Int32} {i : Nat} {s : hT} (h : sIs E A C M i s) (e : ∀ a b, 35 ≤ a → a ≤ 41 → M' a b = M a b) : sIs E A C M' i s :=
  ⟨by rw [e 35 6 (by omega) (by omega)]; exact h.1, h.2.1, fun k hk => by rw [e 36 k (by omega) (by omega), e 37 k (by omega) (by omega), e 38 k (by omega) (by omega), e 39 k (by omega) (by omega), e 40 k (by omega) (by omega)]; exact h.2.2.1 k hk, fun k hk => by rw [e 41 k (by omega) (by omega)]; exact h.2.2.2 k hk⟩
theorem s_in_out (M : Nat → Nat → Int32) (m i c : Nat) {x y : Nat} (h : x < 35 ∨ 41 < x) : s_in M m i c x y = M x y := by
  have o : ∀ (Z : Nat → Nat → Int32) (q k : Nat) (v : Int32), 35 ≤ q → q ≤ 41 → up2 Z q k v x y = Z x y := fun Z q k v h1 h2 => up2_n1 _ _ (by omega)
  unfold s_in
  by_cases hE : M m 7 = 0
  · rw [if_pos hE, o _ _ _ _ (by decide) (by decide)]
  rw [if_neg hE]
  rcases hfd (sLike M m) c with _ | d
  · simp only [s_new]
    rw [o _ _ _ _ (by decide) (by decide), o _ _ _ _ (by decide) (by decide), o _ _ _ _ (by decide) (by decide), o _ _ _ _ (by decide) (by decide), o _ _ _ _ (by decide) (by decide), o _ _ _ _ (by decide) (by decide), o _ _ _ _ (by decide) (by decide), o _ _ _ _ (by decide) (by decide), o _ _ _ _ (by decide) (by decide)]
  · dsimp only
    rw [o _ _ _ _ (by decide) (by decide), o _ _ _ _ (by decide) (by decide), o _ _ _ _ (by decide) (by decide)]
theorem hAll_le (E A C : Nat → Int32) (i : Nat) : (hAll E A C i).1 ≤ i := by
  induction i with
  | zero => exact Nat.le_refl 0
  | succ i ih =>
    simp only [hAll, hStep]
    split
    · exact Nat.le_succ_of_le ih
    · split
      · exact Nat.le_succ_of_le ih
      · exact Nat.succ_le_succ ih
/-- the causes of all inputs -/
abbrev cE (P : List act4) (Is : Nat → List Int32) : Nat → Int32 := fun k => RUN P (Is k) 0 7
abbrev cA (P : List act4) (Is : Nat → List Int32) : Nat → Int32 := fun k => RUN P (Is k) 0 8
abbrev cM (P : List act4) (Is : Nat → List Int32) : Nat → Int32 := fun k => RUN P (Is k) 0 10
abbrev hps (P : List act4) (Is : Nat → List Int32) (n : Nat) : hT := hAll (cE P Is) (cA P Is) (cM P Is) n

set_option maxHeartbeats 4000000 in
set_option maxRecDepth 100000 in
theorem c_X7_sortInputs {l : Launch} {D : va_G} {w : gw} {M : Nat → Nat → Int32} {J : Nat → Nat → Int64} {R : Nat → Nat → Option Nat} (hw : w.1 = 166) (hR : LayC R) {π : Nat → Nat} (hS : ∀ k, k < 3 → R 3 k = some (π k) ∧ isProg w R (π k)) {a n : Nat} {P : List act4} {Is : Nat → List Int32} (ha : a < 3) (hn : n ≤ 30) (h9 : M 0 9 = nI n) (hpa : π a + 4 < 25 ∨ 41 < π a) (hP : progIs M (π a) P) (hL : okL P) (hI : ∀ i, i < n → rowIs M (74 + 2 * i) (Is i)) : Ct l yX7_sortInputs wsX7_sortInputs ({ frames := 4, cells := 0, slots := 0, locals := 97 } : Room) D w [.ref (w.2.1 0), .int (nI a)] (M, J, R) (fun v u => v = none ∧ u.2.1 = J ∧ u.2.2 = R ∧ sIs (cE P Is) (cA P Is) (cM P Is) u.1 n (hps P Is n) ∧ ∀ x y, ¬ (25 ≤ x ∧ x ≤ 29) → ¬ (35 ≤ x ∧ x ≤ 41) → u.1 x y = M x y) := by
  obtain ⟨p, hpe⟩ : ∃ p, p = π a := ⟨_, rfl⟩
  have hp := hS a ha
  rw [← hpe] at hp hP hpa
  obtain ⟨hp3, hp⟩ := hp
  obtain ⟨p_hi4, p_k, p_k1, p_k2, p_k3, p_k4, p_l1, p_l2, p_l3, p_l4, p_r0, p_r1, p_r2, p_r3⟩ := id hp
  have p_hi : p < w.1 := by omega
  have p_hi1 : p + 1 < w.1 := by omega
  have p_hi2 : p + 2 < w.1 := by omega
  have p_hi3 : p + 3 < w.1 := by omega
  have m25 := mach_25 hw hR
  refine Cg.of (own := RX7) (cc := cX7_sortInputs) (maxL := 3) (ret := none) 1 (by decide) rfl rfl (Nat.le_of_ble_eq_true rfl) (fun X C hts V Rr => ?_)
  have F7 : FW X 7 := fun q h => hts q (List.mem_cons_of_mem _ (List.mem_append_left _ (List.mem_append_left _ (List.mem_append_left _ (List.mem_append_left _ (List.mem_append_right _ h))))))
  have F4 : FW X 4 := fun q h => hts q (List.mem_cons_of_mem _ (List.mem_append_left _ (List.mem_append_left _ (List.mem_append_left _ (List.mem_append_right _ h)))))
  have F0 : FW X 0 := fun q h => hts q (List.mem_cons_of_mem _ (List.mem_append_left _ (List.mem_append_left _ (List.mem_append_right _ h))))
  have F2 : FW X 2 := fun q h => hts q (List.mem_cons_of_mem _ (List.mem_append_left _ (List.mem_append_right _ h)))
  have F3 : FW X 3 := fun q h => hts q (List.mem_cons_of_mem _ (List.mem_append_right _ h))
  show Gj X 0 0 w M J R 0 [some (.ref (w.2.1 0)), some (.int (nI a)), none] []
  have loop : ∀ dd j M0, j + dd = n → (∀ x y, ¬ (25 ≤ x ∧ x ≤ 29) → ¬ (35 ≤ x ∧ x ≤ 41) → M0 x y = M x y) → sIs (cE P Is) (cA P Is) (cM P Is) M0 j (hps P Is j) → Gj X 0 0 w M0 J R 10 [some (.ref (w.2.1 0)), some (.int (nI a)), some (.int (nI j))] [] := by
    intro dd
    induction dd with
    | zero =>
      intro j M0 hj hF0 hs
      obtain rfl : j = n := by omega
      refine g_iload_n C dX7_sortInputs_10 rfl ?_
      refine g_aload_n C dX7_sortInputs_11 rfl ?_
      refine g_geti (v := nI j) C F7 (by rw [hw]; decide) rfl (by decide) 9 (by decide) rfl (hts (.fieldLink RX7 62 "FallBench" "inputCount" "I") (by decide +kernel)) rfl (by rw [hF0 0 9 (by omega) (by omega)]; exact h9) dX7_sortInputs_12 ?_
      refine g_icmp_ge (tgt := 55) C dX7_sortInputs_15 (by decide) (fun c15 => ?_) (fun c15 => absurd c15 (not_not_intro (nI_le (Nat.le_refl _) (by omega))))
      exact g_vret C Rr ⟨rfl, ⟨rfl, rfl, rfl, hs, hF0⟩⟩ dX7_sortInputs_55
    | succ dd ih =>
      intro j M0 hj hF0 hs
      obtain ⟨q, hqe⟩ : ∃ q, q = 74 + 2 * j := ⟨_, rfl⟩
      have hq := row_in hw hR (show j < 30 by omega)
      have hIj := hI j (by omega)
      rw [← hqe] at hq hIj
      obtain ⟨hq3, hq⟩ := hq
      obtain ⟨q_hi1, q_k, q_k1, q_0⟩ := id hq
      have q_hi : q < w.1 := by omega
      have aq := row_apart m25 hq (by decide) (by decide)
      have hP0 : progIs M0 p P := hP.o (fun x y h1 h2 => hF0 x y (by omega) (by omega))
      have hI0 : rowIs M0 q (Is j) := hIj.o (fun x y h1 h2 => hF0 x y (by omega) (by omega))
      have hr := run_is m25 hp hq hP0 hI0 hL
      have hs1 : sIs (cE P Is) (cA P Is) (cM P Is) (m_run M0 25 p q) j (hps P Is j) := hs.o (fun x y h1 h2 => m_run_out (by omega))
      have hle := hAll_le (cE P Is) (cA P Is) (cM P Is) j
      refine g_iload_n C dX7_sortInputs_10 rfl ?_
      refine g_aload_n C dX7_sortInputs_11 rfl ?_
      refine g_geti (v := nI n) C F7 (by rw [hw]; decide) rfl (by decide) 9 (by decide) rfl (hts (.fieldLink RX7 62 "FallBench" "inputCount" "I") (by decide +kernel)) rfl (by rw [hF0 0 9 (by omega) (by omega)]; exact h9) dX7_sortInputs_12 ?_
      refine g_icmp_ge (tgt := 55) C dX7_sortInputs_15 (by decide) (fun c15 => absurd c15 (nI_ge (by omega) (by omega))) (fun c15 => ?_)
      refine g_aload_n C dX7_sortInputs_18 rfl ?_
      refine g_getr (j := 25) C F7 (by rw [hw]; decide) rfl (by decide) 5 (by decide) rfl (hts (.fieldLink RX7 42 "FallBench" "one" "LFallBench$Machine;") (by decide +kernel)) rfl (hR (0, 5, 25) (by decide)) dX7_sortInputs_19 ?_
      refine g_aload_n C dX7_sortInputs_22 rfl ?_
      refine g_getr (j := 3) C F7 (by rw [hw]; decide) rfl (by decide) 1 (by decide) rfl (hts (.fieldLink RX7 20 "FallBench" "shelves" "[LFallBench$Program;") (by decide +kernel)) rfl (hR (0, 1, 3) (by decide)) dX7_sortInputs_23 ?_
      refine g_iload_n C dX7_sortInputs_26 rfl ?_
      refine g_aald (j := p) C (by rw [hw]; decide) (by decide) (vp_in_nI (N := 3) ha (by decide)) (by rw [nI_clamp (by omega)]; exact hp3) dX7_sortInputs_27 ?_
      refine g_aload_n C dX7_sortInputs_28 rfl ?_
      refine g_getr (j := 19) C F7 (by rw [hw]; decide) rfl (by decide) 3 (by decide) rfl (hts (.fieldLink RX7 31 "FallBench" "inputs" "[LFallBench$Row;") (by decide +kernel)) rfl (hR (0, 3, 19) (by decide)) dX7_sortInputs_29 ?_
      refine g_iload_n C dX7_sortInputs_32 rfl ?_
      refine g_aald (j := q) C (by rw [hw]; decide) (by decide) (vp_in_nI (N := 30) (by omega) (by decide)) (by rw [nI_clamp (by omega)]; exact hq3) dX7_sortInputs_33 ?_
      refine g_callVf C hts V (i := 25) (gX7_sortInputs_X0_runWhole) rfl hdX0_runWhole (by decide) (c_X0_runWhole m25 hp hq (okP_of hP0 hL)) (by rw [hw]; decide) rfl (by decide) rfl rfl (Nat.le_of_ble_eq_true rfl) dX7_sortInputs_34 ?_
      refine g_aload_n C dX7_sortInputs_37 rfl ?_
      refine g_getr (j := 35) C F7 (by rw [hw]; decide) rfl (by decide) 7 (by decide) rfl (hts (.fieldLink RX7 51 "FallBench" "sorter" "LFallBench$Sorter;") (by decide +kernel)) rfl (hR (0, 7, 35) (by decide)) dX7_sortInputs_38 ?_
      refine g_iload_n C dX7_sortInputs_41 rfl ?_
      refine g_aload_n C dX7_sortInputs_42 rfl ?_
      refine g_getr (j := 25) C F7 (by rw [hw]; decide) rfl (by decide) 5 (by decide) rfl (hts (.fieldLink RX7 42 "FallBench" "one" "LFallBench$Machine;") (by decide +kernel)) rfl (hR (0, 5, 25) (by decide)) dX7_sortInputs_43 ?_
      refine g_callVf C hts V (i := 35) (gX7_sortInputs_X4_sortIn) rfl hdX4_sortIn (by decide) (c_X4_sortIn hw hR m25 hs1.1 (show j < 30 by omega) hle) (by rw [hw]; decide) rfl (by decide) rfl rfl (Nat.le_of_ble_eq_true rfl) dX7_sortInputs_46 ?_
      refine g_iinc (v := nI (j + 1)) C V.2.1 dX7_sortInputs_49 rfl (nI_succ j).symm (by decide) rfl ?_
      refine g_goto (tgt := 10) C dX7_sortInputs_52 (by decide) ?_
      exact ih (j + 1) _ (by omega) (fun x y h1 h2 => by rw [s_in_out _ _ _ _ (by omega), m_run_out (by omega)]; exact hF0 x y h1 h2) (hs1.step (m := 25) (hr.1 7 (by decide) (by decide)) (hr.1 8 (by decide) (by decide)) (hr.1 10 (by decide) (by decide)) (by decide) (by decide) (by decide) (by decide) (by decide))
  refine g_aload_n C dX7_sortInputs_0 rfl ?_
  refine g_getr (j := 35) C F7 (by rw [hw]; decide) rfl (by decide) 7 (by decide) rfl (hts (.fieldLink RX7 51 "FallBench" "sorter" "LFallBench$Sorter;") (by decide +kernel)) rfl (hR (0, 7, 35) (by decide)) dX7_sortInputs_1 ?_
  refine g_iconst (v := 0) C dX7_sortInputs_4 (by decide) ?_
  refine g_puti C F4 (by rw [hw]; decide) rfl (by decide) 6 (by decide) rfl (hts (.fieldLink RX7 174 "FallBench$Sorter" "count" "I") (by decide +kernel)) rfl rfl rfl rfl dX7_sortInputs_5 ?_
  refine g_iconst (v := 0) C dX7_sortInputs_8 (by decide) ?_
  refine g_istore_n C V.2.1 dX7_sortInputs_9 (by decide) rfl ?_
  exact loop n 0 _ (by omega) (fun x y h1 h2 => up2_n1 _ _ (by omega)) ⟨by rw [up2_eq]; rfl, Nat.le_refl 0, fun h hh => absurd hh (Nat.not_lt_zero h), fun h hh => absurd hh (Nat.not_lt_zero h)⟩

set_option maxHeartbeats 4000000 in
set_option maxRecDepth 100000 in
theorem c_X7_heaps_no {l : Launch} {D : va_G} {w : gw} {M : Nat → Nat → Int32} {J : Nat → Nat → Int64} {R : Nat → Nat → Option Nat} (hw : w.1 = 166) (hR : LayC R) {a : Int32} (hno : isSh a = 0) : Cf l yX7_heaps wsX7_heaps ({ frames := 5, cells := 0, slots := 0, locals := 119 } : Room) D w [.ref (w.2.1 0), .int a] M J R (some (.int (-1))) M J R := by
  refine Cg.of (own := RX7) (cc := cX7_heaps) (maxL := 2) (ret := (some .int)) 0 (by decide) rfl rfl (Nat.le_of_ble_eq_true rfl) (fun X C hts V Rr => ?_)
  have F7 : FW X 7 := fun q h => hts q (List.mem_cons_of_mem _ (List.mem_append_left _ (List.mem_append_left _ (List.mem_append_left _ (List.mem_append_left _ (List.mem_append_right _ h))))))
  have F4 : FW X 4 := fun q h => hts q (List.mem_cons_of_mem _ (List.mem_append_left _ (List.mem_append_left _ (List.mem_append_left _ (List.mem_append_right _ h)))))
  have F0 : FW X 0 := fun q h => hts q (List.mem_cons_of_mem _ (List.mem_append_left _ (List.mem_append_left _ (List.mem_append_right _ h))))
  have F2 : FW X 2 := fun q h => hts q (List.mem_cons_of_mem _ (List.mem_append_left _ (List.mem_append_right _ h)))
  have F3 : FW X 3 := fun q h => hts q (List.mem_cons_of_mem _ (List.mem_append_right _ h))
  show Gj X 0 0 w M J R 0 [some (.ref (w.2.1 0)), some (.int a)] []
  refine g_iload_n C dX7_heaps_0 rfl ?_
  refine g_callSf C hts V (gX7_heaps_X7_isShelf) rfl hdX7_isShelf (by decide) c_X7_isShelf rfl rfl (Nat.le_of_ble_eq_true rfl) dX7_heaps_1 ?_
  refine g_if_ne (tgt := 9) C dX7_heaps_4 (by decide) (fun c4 => absurd c4 (not_not_intro hno)) (fun c4 => ?_)
  refine g_iconst (v := (-1)) C dX7_heaps_7 (by decide) ?_
  exact g_iret C Rr ⟨rfl, ⟨rfl, rfl⟩⟩ dX7_heaps_8

set_option maxHeartbeats 4000000 in
set_option maxRecDepth 100000 in
theorem c_X7_heaps {l : Launch} {D : va_G} {w : gw} {M : Nat → Nat → Int32} {J : Nat → Nat → Int64} {R : Nat → Nat → Option Nat} (hw : w.1 = 166) (hR : LayC R) {π : Nat → Nat} (hS : ∀ k, k < 3 → R 3 k = some (π k) ∧ isProg w R (π k)) {a n : Nat} {P : List act4} {Is : Nat → List Int32} (ha : a < 3) (hn : n ≤ 30) (h9 : M 0 9 = nI n) (hpa : π a + 4 < 25 ∨ 41 < π a) (hP : progIs M (π a) P) (hL : okL P) (hI : ∀ i, i < n → rowIs M (74 + 2 * i) (Is i)) : Ct l yX7_heaps wsX7_heaps ({ frames := 5, cells := 0, slots := 0, locals := 119 } : Room) D w [.ref (w.2.1 0), .int (nI a)] (M, J, R) (fun v u => v = some (.int (nI (hps P Is n).1)) ∧ u.2.1 = J ∧ u.2.2 = R ∧ ∀ x y, ¬ (25 ≤ x ∧ x ≤ 29) → ¬ (35 ≤ x ∧ x ≤ 41) → u.1 x y = M x y) := by
  refine Cg.of (own := RX7) (cc := cX7_heaps) (maxL := 2) (ret := (some .int)) 0 (by decide) rfl rfl (Nat.le_of_ble_eq_true rfl) (fun X C hts V Rr => ?_)
  have F7 : FW X 7 := fun q h => hts q (List.mem_cons_of_mem _ (List.mem_append_left _ (List.mem_append_left _ (List.mem_append_left _ (List.mem_append_left _ (List.mem_append_right _ h))))))
  have F4 : FW X 4 := fun q h => hts q (List.mem_cons_of_mem _ (List.mem_append_left _ (List.mem_append_left _ (List.mem_append_left _ (List.mem_append_right _ h)))))
  have F0 : FW X 0 := fun q h => hts q (List.mem_cons_of_mem _ (List.mem_append_left _ (List.mem_append_left _ (List.mem_append_right _ h))))
  have F2 : FW X 2 := fun q h => hts q (List.mem_cons_of_mem _ (List.mem_append_left _ (List.mem_append_right _ h)))
  have F3 : FW X 3 := fun q h => hts q (List.mem_cons_of_mem _ (List.mem_append_right _ h))
  show Gj X 0 0 w M J R 0 [some (.ref (w.2.1 0)), some (.int (nI a))] []
  refine g_iload_n C dX7_heaps_0 rfl ?_
  refine g_callSf C hts V (gX7_heaps_X7_isShelf) rfl hdX7_isShelf (by decide) c_X7_isShelf rfl rfl (Nat.le_of_ble_eq_true rfl) dX7_heaps_1 ?_
  refine g_if_ne (tgt := 9) C dX7_heaps_4 (by decide) (fun c4 => ?_) (fun c4 => absurd c4 (isSh_n ha))
  refine g_aload_n C dX7_heaps_9 rfl ?_
  refine g_iload_n C dX7_heaps_10 rfl ?_
  refine g_callVt C hts V (i := 0) (gX7_heaps_X7_sortInputs) rfl hdX7_sortInputs (by decide) (c_X7_sortInputs hw hR hS ha hn h9 hpa hP hL hI) (by rw [hw]; decide) rfl (by decide) rfl rfl (Nat.le_of_ble_eq_true rfl) dX7_heaps_11 (fun v M1 J1 R1 h => ?_)
  obtain ⟨h0, hJ, hR1, hs, hF⟩ := h
  subst h0
  have hJ := Eq.symm hJ
  subst hJ
  have hR1 := Eq.symm hR1
  subst hR1
  try dsimp only at hs hF
  obtain ⟨t1, t2, t3, t4⟩ := hs
  show Gj X 0 0 w M1 J R 14 [some (.ref (w.2.1 0)), some (.int (nI a))] []
  refine g_aload_n C dX7_heaps_14 rfl ?_
  refine g_getr (j := 35) C F7 (by rw [hw]; decide) rfl (by decide) 7 (by decide) rfl (hts (.fieldLink RX7 51 "FallBench" "sorter" "LFallBench$Sorter;") (by decide +kernel)) rfl (hR (0, 7, 35) (by decide)) dX7_heaps_15 ?_
  refine g_geti (v := nI (hps P Is n).1) C F4 (by rw [hw]; decide) rfl (by decide) 6 (by decide) rfl (hts (.fieldLink RX7 174 "FallBench$Sorter" "count" "I") (by decide +kernel)) rfl t1 dX7_heaps_18 ?_
  exact g_iret C Rr ⟨rfl, ⟨rfl, rfl, rfl, hF⟩⟩ dX7_heaps_21

def hp_ans (E A C : Nat → Int32) (s : hT) (k x : Int32) : Int32 := if k < 0 then -1 else if k < nI s.1 then (if x = 0 then nI (s.2.1 k.toNatClampNeg) else if x = 1 then nI (s.2.2.1 k.toNatClampNeg) else if x = 2 then E (s.2.1 k.toNatClampNeg) else if x = 3 then A (s.2.1 k.toNatClampNeg) else if x = 4 then C (s.2.1 k.toNatClampNeg) else -1) else -1

set_option maxHeartbeats 4000000 in
set_option maxRecDepth 100000 in
theorem c_X7_heap_no {l : Launch} {D : va_G} {w : gw} {M : Nat → Nat → Int32} {J : Nat → Nat → Int64} {R : Nat → Nat → Option Nat} (hw : w.1 = 166) (hR : LayC R) {a k x : Int32} (hno : isSh a = 0) : Cf l yX7_heap wsX7_heap ({ frames := 5, cells := 0, slots := 0, locals := 119 } : Room) D w [.ref (w.2.1 0), .int a, .int k, .int x] M J R (some (.int (-1))) M J R := by
  refine Cg.of (own := RX7) (cc := cX7_heap) (maxL := 4) (ret := (some .int)) 0 (by decide) rfl rfl (Nat.le_of_ble_eq_true rfl) (fun X C hts V Rr => ?_)
  have F7 : FW X 7 := fun q h => hts q (List.mem_cons_of_mem _ (List.mem_append_left _ (List.mem_append_left _ (List.mem_append_left _ (List.mem_append_left _ (List.mem_append_right _ h))))))
  have F4 : FW X 4 := fun q h => hts q (List.mem_cons_of_mem _ (List.mem_append_left _ (List.mem_append_left _ (List.mem_append_left _ (List.mem_append_right _ h)))))
  have F0 : FW X 0 := fun q h => hts q (List.mem_cons_of_mem _ (List.mem_append_left _ (List.mem_append_left _ (List.mem_append_right _ h))))
  have F2 : FW X 2 := fun q h => hts q (List.mem_cons_of_mem _ (List.mem_append_left _ (List.mem_append_right _ h)))
  have F3 : FW X 3 := fun q h => hts q (List.mem_cons_of_mem _ (List.mem_append_right _ h))
  show Gj X 0 0 w M J R 0 [some (.ref (w.2.1 0)), some (.int a), some (.int k), some (.int x)] []
  refine g_iload_n C dX7_heap_0 rfl ?_
  refine g_callSf C hts V (gX7_heap_X7_isShelf) rfl hdX7_isShelf (by decide) c_X7_isShelf rfl rfl (Nat.le_of_ble_eq_true rfl) dX7_heap_1 ?_
  refine g_if_ne (tgt := 9) C dX7_heap_4 (by decide) (fun c4 => absurd c4 (not_not_intro hno)) (fun c4 => ?_)
  refine g_iconst (v := (-1)) C dX7_heap_7 (by decide) ?_
  exact g_iret C Rr ⟨rfl, ⟨rfl, rfl⟩⟩ dX7_heap_8

set_option maxHeartbeats 4000000 in
set_option maxRecDepth 100000 in
theorem c_X7_heap {l : Launch} {D : va_G} {w : gw} {M : Nat → Nat → Int32} {J : Nat → Nat → Int64} {R : Nat → Nat → Option Nat} (hw : w.1 = 166) (hR : LayC R) {π : Nat → Nat} (hS : ∀ k, k < 3 → R 3 k = some (π k) ∧ isProg w R (π k)) {a n : Nat} {P : List act4} {Is : Nat → List Int32} (ha : a < 3) (hn : n ≤ 30) (h9 : M 0 9 = nI n) (hpa : π a + 4 < 25 ∨ 41 < π a) (hP : progIs M (π a) P) (hL : okL P) (hI : ∀ i, i < n → rowIs M (74 + 2 * i) (Is i)) {k x : Int32} : Ct l yX7_heap wsX7_heap ({ frames := 5, cells := 0, slots := 0, locals := 119 } : Room) D w [.ref (w.2.1 0), .int (nI a), .int k, .int x] (M, J, R) (fun v u => v = some (.int (hp_ans (cE P Is) (cA P Is) (cM P Is) (hps P Is n) k x)) ∧ u.2.1 = J ∧ u.2.2 = R ∧ ∀ x y, ¬ (25 ≤ x ∧ x ≤ 29) → ¬ (35 ≤ x ∧ x ≤ 41) → u.1 x y = M x y) := by
  refine Cg.of (own := RX7) (cc := cX7_heap) (maxL := 4) (ret := (some .int)) 0 (by decide) rfl rfl (Nat.le_of_ble_eq_true rfl) (fun X C hts V Rr => ?_)
  have F7 : FW X 7 := fun q h => hts q (List.mem_cons_of_mem _ (List.mem_append_left _ (List.mem_append_left _ (List.mem_append_left _ (List.mem_append_left _ (List.mem_append_right _ h))))))
  have F4 : FW X 4 := fun q h => hts q (List.mem_cons_of_mem _ (List.mem_append_left _ (List.mem_append_left _ (List.mem_append_left _ (List.mem_append_right _ h)))))
  have F0 : FW X 0 := fun q h => hts q (List.mem_cons_of_mem _ (List.mem_append_left _ (List.mem_append_left _ (List.mem_append_right _ h))))
  have F2 : FW X 2 := fun q h => hts q (List.mem_cons_of_mem _ (List.mem_append_left _ (List.mem_append_right _ h)))
  have F3 : FW X 3 := fun q h => hts q (List.mem_cons_of_mem _ (List.mem_append_right _ h))
  show Gj X 0 0 w M J R 0 [some (.ref (w.2.1 0)), some (.int (nI a)), some (.int k), some (.int x)] []
  refine g_iload_n C dX7_heap_0 rfl ?_
  refine g_callSf C hts V (gX7_heap_X7_isShelf) rfl hdX7_isShelf (by decide) c_X7_isShelf rfl rfl (Nat.le_of_ble_eq_true rfl) dX7_heap_1 ?_
  refine g_if_ne (tgt := 9) C dX7_heap_4 (by decide) (fun c4 => ?_) (fun c4 => absurd c4 (isSh_n ha))
  refine g_aload_n C dX7_heap_9 rfl ?_
  refine g_iload_n C dX7_heap_10 rfl ?_
  refine g_callVt C hts V (i := 0) (gX7_heap_X7_sortInputs) rfl hdX7_sortInputs (by decide) (c_X7_sortInputs hw hR hS ha hn h9 hpa hP hL hI) (by rw [hw]; decide) rfl (by decide) rfl rfl (Nat.le_of_ble_eq_true rfl) dX7_heap_11 (fun v M1 J1 R1 h => ?_)
  obtain ⟨h0, hJ, hR1, hs, hF⟩ := h
  subst h0
  have hJ := Eq.symm hJ
  subst hJ
  have hR1 := Eq.symm hR1
  subst hR1
  try dsimp only at hs hF
  obtain ⟨t1, t2, t3, t4⟩ := hs
  have hle := hAll_le (cE P Is) (cA P Is) (cM P Is) n
  show Gj X 0 0 w M1 J R 14 [some (.ref (w.2.1 0)), some (.int (nI a)), some (.int k), some (.int x)] []
  refine g_iload_n C dX7_heap_14 rfl ?_
  refine g_if_lt (tgt := 29) C dX7_heap_15 (by decide) (fun c15 => ?_) (fun c15 => ?_)
  · refine g_iconst (v := (-1)) C dX7_heap_29 (by decide) ?_
    exact g_iret C Rr ⟨rfl, ⟨by simp only [hp_ans, if_pos c15], rfl, rfl, hF⟩⟩ dX7_heap_30
  · refine g_iload_n C dX7_heap_18 rfl ?_
    refine g_aload_n C dX7_heap_19 rfl ?_
    refine g_getr (j := 35) C F7 (by rw [hw]; decide) rfl (by decide) 7 (by decide) rfl (hts (.fieldLink RX7 51 "FallBench" "sorter" "LFallBench$Sorter;") (by decide +kernel)) rfl (hR (0, 7, 35) (by decide)) dX7_heap_20 ?_
    refine g_geti (v := nI (hps P Is n).1) C F4 (by rw [hw]; decide) rfl (by decide) 6 (by decide) rfl (hts (.fieldLink RX7 174 "FallBench$Sorter" "count" "I") (by decide +kernel)) rfl t1 dX7_heap_23 ?_
    refine g_icmp_lt (tgt := 31) C dX7_heap_26 (by decide) (fun c26 => ?_) (fun c26 => ?_)
    · have hk9 : vp_in k (hps P Is n).1 := inOf (by omega) c15 (nlt_nle c26)
      obtain ⟨v1, v2, v3, v4, v5⟩ := t3 _ (in_lt hk9)
      refine g_iload_n C dX7_heap_31 rfl ?_
      by_cases s32_0 : x = 0
      · refine g_tableIn (tgt := 68) C dX7_heap_32 (by rw [s32_0]; decide) (by rw [s32_0]; decide) (by rw [s32_0]; rfl) (by decide) ?_
        refine g_aload_n C dX7_heap_68 rfl ?_
        refine g_getr (j := 35) C F7 (by rw [hw]; decide) rfl (by decide) 7 (by decide) rfl (hts (.fieldLink RX7 51 "FallBench" "sorter" "LFallBench$Sorter;") (by decide +kernel)) rfl (hR (0, 7, 35) (by decide)) dX7_heap_69 ?_
        refine g_getr (j := 36) C F4 (by rw [hw]; decide) rfl (by decide) 0 (by decide) rfl (hts (.fieldLink RX7 175 "FallBench$Sorter" "leasts" "[I") (by decide +kernel)) rfl (hR (35, 0, 36) (by decide)) dX7_heap_72 ?_
        refine g_iload_n C dX7_heap_75 rfl ?_
        refine g_iald (v := nI ((hps P Is n).2.1 k.toNatClampNeg)) C (by rw [hw]; decide) rfl (in_mono (b := 30) hk9 (by omega)) v1 dX7_heap_76 ?_
        exact g_iret C Rr ⟨rfl, ⟨by simp only [hp_ans, if_neg c15, if_pos c26, if_pos s32_0], rfl, rfl, hF⟩⟩ dX7_heap_77
      by_cases s32_1 : x = 1
      · refine g_tableIn (tgt := 78) C dX7_heap_32 (by rw [s32_1]; decide) (by rw [s32_1]; decide) (by rw [s32_1]; rfl) (by decide) ?_
        refine g_aload_n C dX7_heap_78 rfl ?_
        refine g_getr (j := 35) C F7 (by rw [hw]; decide) rfl (by decide) 7 (by decide) rfl (hts (.fieldLink RX7 51 "FallBench" "sorter" "LFallBench$Sorter;") (by decide +kernel)) rfl (hR (0, 7, 35) (by decide)) dX7_heap_79 ?_
        refine g_getr (j := 37) C F4 (by rw [hw]; decide) rfl (by decide) 1 (by decide) rfl (hts (.fieldLink RX7 178 "FallBench$Sorter" "sizes" "[I") (by decide +kernel)) rfl (hR (35, 1, 37) (by decide)) dX7_heap_82 ?_
        refine g_iload_n C dX7_heap_85 rfl ?_
        refine g_iald (v := nI ((hps P Is n).2.2.1 k.toNatClampNeg)) C (by rw [hw]; decide) rfl (in_mono (b := 30) hk9 (by omega)) v2 dX7_heap_86 ?_
        exact g_iret C Rr ⟨rfl, ⟨by simp only [hp_ans, if_neg c15, if_pos c26, if_neg s32_0, if_pos s32_1], rfl, rfl, hF⟩⟩ dX7_heap_87
      by_cases s32_2 : x = 2
      · refine g_tableIn (tgt := 88) C dX7_heap_32 (by rw [s32_2]; decide) (by rw [s32_2]; decide) (by rw [s32_2]; rfl) (by decide) ?_
        refine g_aload_n C dX7_heap_88 rfl ?_
        refine g_getr (j := 35) C F7 (by rw [hw]; decide) rfl (by decide) 7 (by decide) rfl (hts (.fieldLink RX7 51 "FallBench" "sorter" "LFallBench$Sorter;") (by decide +kernel)) rfl (hR (0, 7, 35) (by decide)) dX7_heap_89 ?_
        refine g_getr (j := 38) C F4 (by rw [hw]; decide) rfl (by decide) 2 (by decide) rfl (hts (.fieldLink RX7 181 "FallBench$Sorter" "ends" "[I") (by decide +kernel)) rfl (hR (35, 2, 38) (by decide)) dX7_heap_92 ?_
        refine g_iload_n C dX7_heap_95 rfl ?_
        refine g_iald (v := cE P Is ((hps P Is n).2.1 k.toNatClampNeg)) C (by rw [hw]; decide) rfl (in_mono (b := 30) hk9 (by omega)) v3 dX7_heap_96 ?_
        exact g_iret C Rr ⟨rfl, ⟨by simp only [hp_ans, if_neg c15, if_pos c26, if_neg s32_0, if_neg s32_1, if_pos s32_2], rfl, rfl, hF⟩⟩ dX7_heap_97
      by_cases s32_3 : x = 3
      · refine g_tableIn (tgt := 98) C dX7_heap_32 (by rw [s32_3]; decide) (by rw [s32_3]; decide) (by rw [s32_3]; rfl) (by decide) ?_
        refine g_aload_n C dX7_heap_98 rfl ?_
        refine g_getr (j := 35) C F7 (by rw [hw]; decide) rfl (by decide) 7 (by decide) rfl (hts (.fieldLink RX7 51 "FallBench" "sorter" "LFallBench$Sorter;") (by decide +kernel)) rfl (hR (0, 7, 35) (by decide)) dX7_heap_99 ?_
        refine g_getr (j := 39) C F4 (by rw [hw]; decide) rfl (by decide) 3 (by decide) rfl (hts (.fieldLink RX7 184 "FallBench$Sorter" "acts" "[I") (by decide +kernel)) rfl (hR (35, 3, 39) (by decide)) dX7_heap_102 ?_
        refine g_iload_n C dX7_heap_105 rfl ?_
        refine g_iald (v := cA P Is ((hps P Is n).2.1 k.toNatClampNeg)) C (by rw [hw]; decide) rfl (in_mono (b := 30) hk9 (by omega)) v4 dX7_heap_106 ?_
        exact g_iret C Rr ⟨rfl, ⟨by simp only [hp_ans, if_neg c15, if_pos c26, if_neg s32_0, if_neg s32_1, if_neg s32_2, if_pos s32_3], rfl, rfl, hF⟩⟩ dX7_heap_107
      by_cases s32_4 : x = 4
      · refine g_tableIn (tgt := 108) C dX7_heap_32 (by rw [s32_4]; decide) (by rw [s32_4]; decide) (by rw [s32_4]; rfl) (by decide) ?_
        refine g_aload_n C dX7_heap_108 rfl ?_
        refine g_getr (j := 35) C F7 (by rw [hw]; decide) rfl (by decide) 7 (by decide) rfl (hts (.fieldLink RX7 51 "FallBench" "sorter" "LFallBench$Sorter;") (by decide +kernel)) rfl (hR (0, 7, 35) (by decide)) dX7_heap_109 ?_
        refine g_getr (j := 40) C F4 (by rw [hw]; decide) rfl (by decide) 4 (by decide) rfl (hts (.fieldLink RX7 187 "FallBench$Sorter" "makers" "[I") (by decide +kernel)) rfl (hR (35, 4, 40) (by decide)) dX7_heap_112 ?_
        refine g_iload_n C dX7_heap_115 rfl ?_
        refine g_iald (v := cM P Is ((hps P Is n).2.1 k.toNatClampNeg)) C (by rw [hw]; decide) rfl (in_mono (b := 30) hk9 (by omega)) v5 dX7_heap_116 ?_
        exact g_iret C Rr ⟨rfl, ⟨by simp only [hp_ans, if_neg c15, if_pos c26, if_neg s32_0, if_neg s32_1, if_neg s32_2, if_neg s32_3, if_pos s32_4], rfl, rfl, hF⟩⟩ dX7_heap_117
      refine g_tableOut (tgt := 118) C dX7_heap_32 (by have e0 := lv_neT s32_0 (a := 0) (by decide); have e1 := lv_neT s32_1 (a := 1) (by decide); have e2 := lv_neT s32_2 (a := 2) (by decide); have e3 := lv_neT s32_3 (a := 3) (by decide); have e4 := lv_neT s32_4 (a := 4) (by decide); omega) (by decide) ?_
      refine g_iconst (v := (-1)) C dX7_heap_118 (by decide) ?_
      exact g_iret C Rr ⟨rfl, ⟨by simp only [hp_ans, if_neg c15, if_pos c26, if_neg s32_0, if_neg s32_1, if_neg s32_2, if_neg s32_3, if_neg s32_4], rfl, rfl, hF⟩⟩ dX7_heap_119
    · refine g_iconst (v := (-1)) C dX7_heap_29 (by decide) ?_
      exact g_iret C Rr ⟨rfl, ⟨by simp only [hp_ans, if_neg c15, if_neg c26], rfl, rfl, hF⟩⟩ dX7_heap_30

set_option maxHeartbeats 4000000 in
set_option maxRecDepth 100000 in
theorem c_X7_heapOf_no {l : Launch} {D : va_G} {w : gw} {M : Nat → Nat → Int32} {J : Nat → Nat → Int64} {R : Nat → Nat → Option Nat} (hw : w.1 = 166) (hR : LayC R) {a i : Int32} (hno : isSh a = 0 ∨ isIn (M 0 9) i = 0) : Cf l yX7_heapOf wsX7_heapOf ({ frames := 5, cells := 0, slots := 0, locals := 119 } : Room) D w [.ref (w.2.1 0), .int a, .int i] M J R (some (.int (-1))) M J R := by
  refine Cg.of (own := RX7) (cc := cX7_heapOf) (maxL := 3) (ret := (some .int)) 0 (by decide) rfl rfl (Nat.le_of_ble_eq_true rfl) (fun X C hts V Rr => ?_)
  have F7 : FW X 7 := fun q h => hts q (List.mem_cons_of_mem _ (List.mem_append_left _ (List.mem_append_left _ (List.mem_append_left _ (List.mem_append_left _ (List.mem_append_right _ h))))))
  have F4 : FW X 4 := fun q h => hts q (List.mem_cons_of_mem _ (List.mem_append_left _ (List.mem_append_left _ (List.mem_append_left _ (List.mem_append_right _ h)))))
  have F0 : FW X 0 := fun q h => hts q (List.mem_cons_of_mem _ (List.mem_append_left _ (List.mem_append_left _ (List.mem_append_right _ h))))
  have F2 : FW X 2 := fun q h => hts q (List.mem_cons_of_mem _ (List.mem_append_left _ (List.mem_append_right _ h)))
  have F3 : FW X 3 := fun q h => hts q (List.mem_cons_of_mem _ (List.mem_append_right _ h))
  show Gj X 0 0 w M J R 0 [some (.ref (w.2.1 0)), some (.int a), some (.int i)] []
  refine g_iload_n C dX7_heapOf_0 rfl ?_
  refine g_callSf C hts V (gX7_heapOf_X7_isShelf) rfl hdX7_isShelf (by decide) c_X7_isShelf rfl rfl (Nat.le_of_ble_eq_true rfl) dX7_heapOf_1 ?_
  refine g_if_eq (tgt := 15) C dX7_heapOf_4 (by decide) (fun c4 => ?_) (fun c4 => ?_)
  · refine g_iconst (v := (-1)) C dX7_heapOf_15 (by decide) ?_
    exact g_iret C Rr ⟨rfl, ⟨rfl, rfl⟩⟩ dX7_heapOf_16
  · refine g_aload_n C dX7_heapOf_7 rfl ?_
    refine g_iload_n C dX7_heapOf_8 rfl ?_
    refine g_callVf C hts V (i := 0) (gX7_heapOf_X7_isInput) rfl hdX7_isInput (by decide) (c_X7_isInput hw hR) (by rw [hw]; decide) rfl (by decide) rfl rfl (Nat.le_of_ble_eq_true rfl) dX7_heapOf_9 ?_
    refine g_if_ne (tgt := 17) C dX7_heapOf_12 (by decide) (fun c12 => ?_) (fun c12 => ?_)
    · exact absurd hno (fun z => by rcases z with z | z; exact c4 z; exact c12 z)
    · refine g_iconst (v := (-1)) C dX7_heapOf_15 (by decide) ?_
      exact g_iret C Rr ⟨rfl, ⟨rfl, rfl⟩⟩ dX7_heapOf_16

set_option maxHeartbeats 4000000 in
set_option maxRecDepth 100000 in
theorem c_X7_heapOf {l : Launch} {D : va_G} {w : gw} {M : Nat → Nat → Int32} {J : Nat → Nat → Int64} {R : Nat → Nat → Option Nat} (hw : w.1 = 166) (hR : LayC R) {π : Nat → Nat} (hS : ∀ k, k < 3 → R 3 k = some (π k) ∧ isProg w R (π k)) {a n : Nat} {P : List act4} {Is : Nat → List Int32} (ha : a < 3) (hn : n ≤ 30) (h9 : M 0 9 = nI n) (hpa : π a + 4 < 25 ∨ 41 < π a) (hP : progIs M (π a) P) (hL : okL P) (hI : ∀ i, i < n → rowIs M (74 + 2 * i) (Is i)) {i : Nat} (hi : i < n) : Ct l yX7_heapOf wsX7_heapOf ({ frames := 5, cells := 0, slots := 0, locals := 119 } : Room) D w [.ref (w.2.1 0), .int (nI a), .int (nI i)] (M, J, R) (fun v u => v = some (.int ((hps P Is n).2.2.2 i)) ∧ u.2.1 = J ∧ u.2.2 = R ∧ ∀ x y, ¬ (25 ≤ x ∧ x ≤ 29) → ¬ (35 ≤ x ∧ x ≤ 41) → u.1 x y = M x y) := by
  refine Cg.of (own := RX7) (cc := cX7_heapOf) (maxL := 3) (ret := (some .int)) 0 (by decide) rfl rfl (Nat.le_of_ble_eq_true rfl) (fun X C hts V Rr => ?_)
  have F7 : FW X 7 := fun q h => hts q (List.mem_cons_of_mem _ (List.mem_append_left _ (List.mem_append_left _ (List.mem_append_left _ (List.mem_append_left _ (List.mem_append_right _ h))))))
  have F4 : FW X 4 := fun q h => hts q (List.mem_cons_of_mem _ (List.mem_append_left _ (List.mem_append_left _ (List.mem_append_left _ (List.mem_append_right _ h)))))
  have F0 : FW X 0 := fun q h => hts q (List.mem_cons_of_mem _ (List.mem_append_left _ (List.mem_append_left _ (List.mem_append_right _ h))))
  have F2 : FW X 2 := fun q h => hts q (List.mem_cons_of_mem _ (List.mem_append_left _ (List.mem_append_right _ h)))
  have F3 : FW X 3 := fun q h => hts q (List.mem_cons_of_mem _ (List.mem_append_right _ h))
  show Gj X 0 0 w M J R 0 [some (.ref (w.2.1 0)), some (.int (nI a)), some (.int (nI i))] []
  refine g_iload_n C dX7_heapOf_0 rfl ?_
  refine g_callSf C hts V (gX7_heapOf_X7_isShelf) rfl hdX7_isShelf (by decide) c_X7_isShelf rfl rfl (Nat.le_of_ble_eq_true rfl) dX7_heapOf_1 ?_
  refine g_if_eq (tgt := 15) C dX7_heapOf_4 (by decide) (fun c4 => absurd c4 (isSh_n ha)) (fun c4 => ?_)
  refine g_aload_n C dX7_heapOf_7 rfl ?_
  refine g_iload_n C dX7_heapOf_8 rfl ?_
  refine g_callVf C hts V (i := 0) (gX7_heapOf_X7_isInput) rfl hdX7_isInput (by decide) (c_X7_isInput hw hR) (by rw [hw]; decide) rfl (by decide) rfl rfl (Nat.le_of_ble_eq_true rfl) dX7_heapOf_9 ?_
  refine g_if_ne (tgt := 17) C dX7_heapOf_12 (by decide) (fun c12 => ?_) (fun c12 => absurd c12 (by rw [h9]; exact isIn_n hn hi))
  refine g_aload_n C dX7_heapOf_17 rfl ?_
  refine g_iload_n C dX7_heapOf_18 rfl ?_
  refine g_callVt C hts V (i := 0) (gX7_heapOf_X7_sortInputs) rfl hdX7_sortInputs (by decide) (c_X7_sortInputs hw hR hS ha hn h9 hpa hP hL hI) (by rw [hw]; decide) rfl (by decide) rfl rfl (Nat.le_of_ble_eq_true rfl) dX7_heapOf_19 (fun v M1 J1 R1 h => ?_)
  obtain ⟨h0, hJ, hR1, hs, hF⟩ := h
  subst h0
  have hJ := Eq.symm hJ
  subst hJ
  have hR1 := Eq.symm hR1
  subst hR1
  try dsimp only at hs hF
  obtain ⟨t1, t2, t3, t4⟩ := hs
  show Gj X 0 0 w M1 J R 22 [some (.ref (w.2.1 0)), some (.int (nI a)), some (.int (nI i))] []
  refine g_aload_n C dX7_heapOf_22 rfl ?_
  refine g_getr (j := 35) C F7 (by rw [hw]; decide) rfl (by decide) 7 (by decide) rfl (hts (.fieldLink RX7 51 "FallBench" "sorter" "LFallBench$Sorter;") (by decide +kernel)) rfl (hR (0, 7, 35) (by decide)) dX7_heapOf_23 ?_
  refine g_getr (j := 41) C F4 (by rw [hw]; decide) rfl (by decide) 5 (by decide) rfl (hts (.fieldLink RX7 188 "FallBench$Sorter" "heapOfInput" "[I") (by decide +kernel)) rfl (hR (35, 5, 41) (by decide)) dX7_heapOf_26 ?_
  refine g_iload_n C dX7_heapOf_29 rfl ?_
  refine g_iald (v := (hps P Is n).2.2.2 i) C (by rw [hw]; decide) rfl (vp_in_nI (N := 30) (by omega) (by decide)) (by rw [nI_clamp (by omega)]; exact t4 i hi) dX7_heapOf_30 ?_
  exact g_iret C Rr ⟨rfl, ⟨rfl, rfl, rfl, hF⟩⟩ dX7_heapOf_31
