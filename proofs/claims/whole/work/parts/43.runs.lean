/-! run of both sides -/
set_option maxHeartbeats 4000000 in
set_option maxRecDepth 100000 in
theorem c_X7_run {l : Launch} {D : va_G} {w : gw} {M : Nat → Nat → Int32} {J : Nat → Nat → Int64} {R : Nat → Nat → Option Nat} (hw : w.1 = 166) (hR : LayC R) {π : Nat → Nat} (hS : ∀ k, k < 3 → R 3 k = some (π k) ∧ isProg w R (π k)) (hO : ∀ k, k < 3 → okP M (π k)) {n : Nat} (hn : n ≤ 30) (h9 : M 0 9 = nI n) {s i : Int32} : Cf l yX7_run wsX7_run ({ frames := 4, cells := 0, slots := 0, locals := 97 } : Room) D w [.ref (w.2.1 0), .int s, .int i] M J R (some (.int (if isSh s = 0 then -1 else if isIn (M 0 9) i = 0 then -1 else m_run M 20 (π s.toNatClampNeg) (74 + 2 * i.toNatClampNeg) 20 7))) (if isSh s = 0 then M else if isIn (M 0 9) i = 0 then M else up2 (m_run M 20 (π s.toNatClampNeg) (74 + 2 * i.toNatClampNeg)) 0 10 1) J R := by
  generalize hpe : π s.toNatClampNeg = p
  generalize hqe : 74 + 2 * i.toNatClampNeg = q
  refine Cg.of (own := RX7) (cc := cX7_run) (maxL := 3) (ret := (some .int)) 0 (by decide) rfl rfl (Nat.le_of_ble_eq_true rfl) (fun X C hts V Rr => ?_)
  have F7 : FW X 7 := fun q h => hts q (List.mem_cons_of_mem _ (List.mem_append_left _ (List.mem_append_left _ (List.mem_append_left _ (List.mem_append_right _ h)))))
  have F0 : FW X 0 := fun q h => hts q (List.mem_cons_of_mem _ (List.mem_append_left _ (List.mem_append_left _ (List.mem_append_right _ h))))
  have F2 : FW X 2 := fun q h => hts q (List.mem_cons_of_mem _ (List.mem_append_left _ (List.mem_append_right _ h)))
  have F3 : FW X 3 := fun q h => hts q (List.mem_cons_of_mem _ (List.mem_append_right _ h))
  show Gj X 0 0 w M J R 0 [some (.ref (w.2.1 0)), some (.int s), some (.int i)] []
  refine g_iload_n C dX7_run_0 rfl ?_
  refine g_callSf C hts V (gX7_run_X7_isShelf) rfl hdX7_isShelf (by decide) c_X7_isShelf rfl rfl (Nat.le_of_ble_eq_true rfl) dX7_run_1 ?_
  refine g_if_eq (tgt := 15) C dX7_run_4 (by decide) (fun c4 => ?_) (fun c4 => ?_)
  · refine g_iconst (v := (-1)) C dX7_run_15 (by decide) ?_
    exact g_iret C Rr ⟨rfl, ⟨by simp only [if_pos c4], by simp only [if_pos c4]⟩⟩ dX7_run_16
  · refine g_aload_n C dX7_run_7 rfl ?_
    refine g_iload_n C dX7_run_8 rfl ?_
    refine g_callVf C hts V (i := 0) (gX7_run_X7_isInput) rfl hdX7_isInput (by decide) (c_X7_isInput hw hR) (by rw [hw]; decide) rfl (by decide) rfl rfl (Nat.le_of_ble_eq_true rfl) dX7_run_9 ?_
    refine g_if_ne (tgt := 17) C dX7_run_12 (by decide) (fun c12 => ?_) (fun c12 => ?_)
    · refine g_aload_n C dX7_run_17 rfl ?_
      refine g_getr (j := 20) C F7 (by rw [hw]; decide) rfl (by decide) 4 (by decide) rfl (hts (.fieldLink RX7 38 "FallBench" "latest" "LFallBench$Machine;") (by decide +kernel)) rfl (hR (0, 4, 20) (by decide)) dX7_run_18 ?_
      refine g_aload_n C dX7_run_21 rfl ?_
      refine g_getr (j := 3) C F7 (by rw [hw]; decide) rfl (by decide) 1 (by decide) rfl (hts (.fieldLink RX7 20 "FallBench" "shelves" "[LFallBench$Program;") (by decide +kernel)) rfl (hR (0, 1, 3) (by decide)) dX7_run_22 ?_
      refine g_iload_n C dX7_run_25 rfl ?_
      have hp := hS _ (in_lt (sh_in c4))
      have hoP := hO _ (in_lt (sh_in c4))
      rw [hpe] at hp hoP
      obtain ⟨hp3, hp⟩ := hp
      obtain ⟨p_hi4, p_k, p_k1, p_k2, p_k3, p_k4, p_l1, p_l2, p_l3, p_l4, p_r0, p_r1, p_r2, p_r3⟩ := id hp
      have p_hi : p < w.1 := by omega
      have p_hi1 : p + 1 < w.1 := by omega
      have p_hi2 : p + 2 < w.1 := by omega
      have p_hi3 : p + 3 < w.1 := by omega
      refine g_aald (j := p) C (by rw [hw]; decide) (by decide) (sh_in c4) hp3 dX7_run_26 ?_
      refine g_aload_n C dX7_run_27 rfl ?_
      refine g_getr (j := 19) C F7 (by rw [hw]; decide) rfl (by decide) 3 (by decide) rfl (hts (.fieldLink RX7 31 "FallBench" "inputs" "[LFallBench$Row;") (by decide +kernel)) rfl (hR (0, 3, 19) (by decide)) dX7_run_28 ?_
      refine g_iload_n C dX7_run_31 rfl ?_
      have hi30 : vp_in i 30 := in_mono (in_in (by omega) (by rw [h9] at c12; exact c12)) hn
      have hq := row_in hw hR (in_lt hi30)
      rw [hqe] at hq
      obtain ⟨hq3, hq⟩ := hq
      obtain ⟨q_hi1, q_k, q_k1, q_0⟩ := id hq
      have q_hi : q < w.1 := by omega
      refine g_aald (j := q) C (by rw [hw]; decide) (by decide) hi30 hq3 dX7_run_32 ?_
      refine g_callVf C hts V (i := 20) (gX7_run_X0_runWhole) rfl hdX0_runWhole (by decide) (c_X0_runWhole (mach_20 hw hR) hp hq hoP) (by rw [hw]; decide) rfl (by decide) rfl rfl (Nat.le_of_ble_eq_true rfl) dX7_run_33 ?_
      refine g_aload_n C dX7_run_36 rfl ?_
      refine g_iconst (v := 1) C dX7_run_37 (by decide) ?_
      refine g_puti C F7 (by rw [hw]; decide) rfl (by decide) 10 (by decide) rfl (hts (.fieldLink RX7 66 "FallBench" "hasRun" "Z") (by decide +kernel)) rfl rfl rfl rfl dX7_run_38 ?_
      refine g_aload_n C dX7_run_41 rfl ?_
      refine g_getr (j := 20) C F7 (by rw [hw]; decide) rfl (by decide) 4 (by decide) rfl (hts (.fieldLink RX7 38 "FallBench" "latest" "LFallBench$Machine;") (by decide +kernel)) rfl (hR (0, 4, 20) (by decide)) dX7_run_42 ?_
      refine g_geti (v := m_run M 20 p q 20 7) C F0 (by rw [hw]; decide) rfl (by decide) 7 (by decide) rfl (hts (.fieldLink RX7 126 "FallBench$Machine" "ended" "I") (by decide +kernel)) rfl (up2_n1 _ _ (by decide)) dX7_run_45 ?_
      exact g_iret C Rr ⟨rfl, ⟨by simp only [if_neg c4, if_neg c12], by simp only [if_neg c4, if_neg c12]⟩⟩ dX7_run_48
    · refine g_iconst (v := (-1)) C dX7_run_15 (by decide) ?_
      exact g_iret C Rr ⟨rfl, ⟨by simp only [if_neg c4, if_pos c12], by simp only [if_neg c4, if_pos c12]⟩⟩ dX7_run_16

/-- input i of the reference is I -/
def inAtM (M : Nat → Nat → Int32) (i : Nat) (I : List Int32) : Prop := M 147 i = nI I.length ∧ ∀ k, k < I.length → M 146 (24 * i + k) = I.getD k 0
theorem use_in {M : Nat → Nat → Int32} {i : Nat} {I : List Int32} (h : inAtM M i I) : inN (f_mem (up2 M 134 29 (nI I.length)) 148 0 (fun k => M 146 (24 * i + k)) I.length) I := by
  refine ⟨by rw [f_mem_o _ _ _ (by decide), up2_eq], fun k hk => ?_⟩
  unfold f_mem
  rw [if_pos ⟨rfl, Nat.zero_le _, by omega⟩, Nat.sub_zero]
  exact h.2 k hk
theorem use_prog {M : Nat → Nat → Int32} {s z : Nat} {F : Nat → Int32} {v : Int32} {P : List act4} (h : progN M s P) : progN (f_mem (up2 M 134 29 v) 148 0 F z) s P := by
  have o : ∀ a b, a ≠ 148 → a ≠ 134 → f_mem (up2 M 134 29 v) 148 0 F z a b = M a b := fun a b h1 h2 => by rw [f_mem_o _ _ _ h1, up2_n1 _ _ h2]
  exact ⟨h.1, by rw [o _ _ (by decide) (by decide)]; exact h.2.1, fun k hk => by rw [o _ _ (by decide) (by decide), o _ _ (by decide) (by decide), o _ _ (by decide) (by decide), o _ _ (by decide) (by decide)]; exact h.2.2 k hk⟩
theorem isSh_n {s : Nat} (hs : s < 3) : ¬ isSh (nI s) = 0 := by
  rw [isSh, if_neg (nI_pos (by omega)), if_neg (show ¬ (3 : Int32) ≤ nI s from nI_ge (b := 3) hs (by decide))]; decide
theorem isIn_n {n i : Nat} (hn : n ≤ 30) (hi : i < n) : ¬ isIn (nI n) (nI i) = 0 := by
  rw [isIn, if_neg (nI_pos (by omega)), if_neg (nI_ge hi (by omega))]; decide
/-- what the reference keeps of a RUN -/
def lookIs (M K : Nat → Nat → Int32) : Prop := M 157 0 = K 0 6 ∧ M 157 1 = K 0 8 ∧ M 157 2 = K 0 9 ∧ M 157 3 = K 0 10 ∧ M 157 4 = K 0 11 ∧ M 157 5 = K 0 4 ∧ M 157 6 = K 0 5 ∧ ∀ b, b < 40 → M 153 b = K 1 b ∧ M 154 b = K 2 b ∧ M 155 b = K 3 b ∧ (nI b < K 0 4 → M 156 b = K 4 b)
def lk7 (M : Nat → Nat → Int32) : Nat → Nat → Int32 := up2 (up2 (up2 (up2 (up2 (up2 (up2 (up2 M 134 44 1) 157 0 (M 134 35)) 157 1 (M 134 31)) 157 2 (M 134 32)) 157 3 (M 134 33)) 157 4 (M 134 34)) 157 5 (M 134 36)) 157 6 (M 134 37)
def lkm (M : Nat → Nat → Int32) (j : Nat) : Nat → Nat → Int32 := fun a b => if 153 ≤ a ∧ a ≤ 156 ∧ b < j then M (a - 4) b else lk7 M a b
theorem lkm_0 (M : Nat → Nat → Int32) : lkm M 0 = lk7 M := by
  funext a b; simp only [lkm]; exact if_neg (by omega)
theorem lkm_s (M : Nat → Nat → Int32) (j : Nat) : up2 (up2 (up2 (up2 (lkm M j) 153 j (M 149 j)) 154 j (M 150 j)) 155 j (M 151 j)) 156 j (M 152 j) = lkm M (j + 1) := by
  funext a b
  simp only [up2, lkm]
  by_cases h : b = j
  · subst h
    by_cases h1 : a = 156
    · subst h1; simp
    · by_cases h2 : a = 155
      · subst h2; simp
      · by_cases h3 : a = 154
        · subst h3; simp
        · by_cases h4 : a = 153
          · subst h4; simp
          · rw [if_neg (by omega), if_neg (by omega), if_neg (by omega), if_neg (by omega), if_neg (by omega), if_neg (by omega)]
  · rw [if_neg (by omega), if_neg (by omega), if_neg (by omega), if_neg (by omega)]
    by_cases h2 : 153 ≤ a ∧ a ≤ 156 ∧ b < j
    · rw [if_pos h2, if_pos (by omega)]
    · rw [if_neg h2, if_neg (by omega)]
theorem lkm_o (M : Nat → Nat → Int32) (j : Nat) {a b : Nat} (h1 : a < 153 ∨ 157 < a) (h2 : ¬ (a = 134 ∧ b = 44)) : lkm M j a b = M a b := by
  simp only [lkm]; rw [if_neg (by omega)]
  simp only [lk7, up2]
  rw [if_neg (by omega), if_neg (by omega), if_neg (by omega), if_neg (by omega), if_neg (by omega), if_neg (by omega), if_neg (by omega), if_neg h2]
theorem lkm_is {M K : Nat → Nat → Int32} (h : Qk K (winM M)) : lookIs (lkm M 40) K := by
  refine ⟨?_, ?_, ?_, ?_, ?_, ?_, ?_, fun b hb => ⟨?_, ?_, ?_, fun hk => ?_⟩⟩
  · exact (h.1 6 (by decide) (by decide)).symm
  · exact (h.1 8 (by decide) (by decide)).symm
  · exact (h.1 9 (by decide) (by decide)).symm
  · exact (h.1 10 (by decide) (by decide)).symm
  · exact (h.1 11 (by decide) (by decide)).symm
  · exact (h.1 4 (by decide) (by decide)).symm
  · exact (h.1 5 (by decide) (by decide)).symm
  · rw [h.2.1 1 b (by decide) (by decide) hb]; simp only [lkm]; rw [if_pos ⟨by decide, by decide, hb⟩]; rfl
  · rw [h.2.1 2 b (by decide) (by decide) hb]; simp only [lkm]; rw [if_pos ⟨by decide, by decide, hb⟩]; rfl
  · rw [h.2.1 3 b (by decide) (by decide) hb]; simp only [lkm]; rw [if_pos ⟨by decide, by decide, hb⟩]; rfl
  · rw [h.2.2 b hb hk]; simp only [lkm]; rw [if_pos ⟨by decide, by decide, hb⟩]; rfl
/-- cells that the reference's runs may change -/
def rF (M M' : Nat → Nat → Int32) : Prop := ∀ a b, ¬ (a = 134 ∧ 29 ≤ b ∧ b ≤ 38) → ¬ (148 ≤ a ∧ a ≤ 152) → M' a b = M a b
theorem use_rF {M M' : Nat → Nat → Int32} {z : Nat} {F : Nat → Int32} {v : Int32} (h : nF (f_mem (up2 M 134 29 v) 148 0 F z) M') : rF M M' := fun a b h1 h2 => by
  rw [h a b (fun q => h1 ⟨q.1, by omega, by omega⟩) (fun q => h2 (by omega)), f_mem_o _ _ _ (by omega)]
  simp only [up2]; exact if_neg (fun q => h1 ⟨q.1, by omega, by omega⟩)
theorem nF_rF {M M' : Nat → Nat → Int32} (h : nF M M') : rF M M' := fun a b h1 h2 => h a b (fun q => h1 ⟨q.1, by omega, by omega⟩) (fun q => h2 (by omega))
theorem rF.trans {M M' M'' : Nat → Nat → Int32} (h : rF M M') (h' : rF M' M'') : rF M M'' := fun a b h1 h2 => (h' a b h1 h2).trans (h a b h1 h2)

set_option maxHeartbeats 4000000 in
set_option maxRecDepth 100000 in
theorem c_X8_run_no {l : Launch} {D : va_G} {w : gw} {M : Nat → Nat → Int32} {J : Nat → Nat → Int64} {R : Nat → Nat → Option Nat} (hw : w.1 = 166) (hR : LayM R) {s i : Int32} (hno : isSh s = 0 ∨ isIn (M 134 23) i = 0) : Cf l yX8_run wsX8_run ({ frames := 3, cells := 0, slots := 0, locals := 75 } : Room) D w [.ref (w.2.1 134), .int s, .int i] M J R (some (.int (-1))) M J R := by
  refine Cg.of (own := RX8) (cc := cX8_run) (maxL := 4) (ret := (some .int)) 1 (by decide) rfl rfl (Nat.le_of_ble_eq_true rfl) (fun X C hts V Rr => ?_)
  have F8 : FW X 8 := fun q h => hts q (List.mem_cons_of_mem _ (List.mem_append_right _ h))
  show Gj X 0 0 w M J R 0 [some (.ref (w.2.1 134)), some (.int s), some (.int i), none] []
  refine g_iload_n C dX8_run_0 rfl ?_
  refine g_callSf C hts V (gX8_run_X8_isShelf) rfl hdX8_isShelf (by decide) c_X8_isShelf rfl rfl (Nat.le_of_ble_eq_true rfl) dX8_run_1 ?_
  refine g_if_eq (tgt := 15) C dX8_run_4 (by decide) (fun c4 => ?_) (fun c4 => ?_)
  · refine g_iconst (v := (-1)) C dX8_run_15 (by decide) ?_
    exact g_iret C Rr ⟨rfl, ⟨rfl, rfl⟩⟩ dX8_run_16
  · refine g_aload_n C dX8_run_7 rfl ?_
    refine g_iload_n C dX8_run_8 rfl ?_
    refine g_callVf C hts V (i := 134) (gX8_run_X8_isInput) rfl hdX8_isInput (by decide) (c_X8_isInput hw hR) (by rw [hw]; decide) rfl (by decide) rfl rfl (Nat.le_of_ble_eq_true rfl) dX8_run_9 ?_
    refine g_if_ne (tgt := 17) C dX8_run_12 (by decide) (fun c12 => ?_) (fun c12 => ?_)
    · exact absurd hno (fun z => by rcases z with z | z; exact c4 z; exact c12 z)
    · refine g_iconst (v := (-1)) C dX8_run_15 (by decide) ?_
      exact g_iret C Rr ⟨rfl, ⟨rfl, rfl⟩⟩ dX8_run_16

set_option maxHeartbeats 4000000 in
set_option maxRecDepth 100000 in
theorem c_X8_run {l : Launch} {D : va_G} {w : gw} {M : Nat → Nat → Int32} {J : Nat → Nat → Int64} {R : Nat → Nat → Option Nat} (hw : w.1 = 166) (hR : LayM R) {s : Nat} {P : List act4} {I : List Int32} (hs : s < 3) (hP : progN M s P) (hL : okL2 P) {n i : Nat} (hn : n ≤ 30) (h9 : M 134 23 = nI n) (hi : i < n) (hA : inAtM M i I) (hB : okI I) : Ct l yX8_run wsX8_run ({ frames := 3, cells := 0, slots := 0, locals := 75 } : Room) D w [.ref (w.2.1 134), .int (nI s), .int (nI i)] (M, J, R) (fun v u => v = some (.int (RUN P I 0 7)) ∧ u.2.1 = J ∧ u.2.2 = R ∧ lookIs u.1 (RUN P I) ∧ u.1 134 44 = 1 ∧ ∀ a b, ¬ (a = 134 ∧ (29 ≤ b ∧ b ≤ 38 ∨ b = 44)) → ¬ (148 ≤ a ∧ a ≤ 152) → ¬ (153 ≤ a ∧ a ≤ 157) → u.1 a b = M a b) := by
  refine Cg.of (own := RX8) (cc := cX8_run) (maxL := 4) (ret := (some .int)) 1 (by decide) rfl rfl (Nat.le_of_ble_eq_true rfl) (fun X C hts V Rr => ?_)
  have F8 : FW X 8 := fun q h => hts q (List.mem_cons_of_mem _ (List.mem_append_right _ h))
  show Gj X 0 0 w M J R 0 [some (.ref (w.2.1 134)), some (.int (nI s)), some (.int (nI i)), none] []
  have loop : ∀ M1, rF M M1 → Qk (RUN P I) (winM M1) → ∀ dd j, j + dd = 40 → Gj X 0 0 w (lkm M1 j) J R 105 [some (.ref (w.2.1 134)), some (.int (nI s)), some (.int (nI i)), some (.int (nI j))] [] := by
    intro M1 hF hQ dd
    induction dd with
    | zero =>
      intro j hj
      obtain rfl : j = 40 := by omega
      refine g_iload_n C dX8_run_105 rfl ?_
      refine g_bipush (v := 40) C dX8_run_106 (by decide) ?_
      refine g_icmp_ge (tgt := 165) C dX8_run_108 (by decide) (fun c108 => ?_) (fun c108 => absurd c108 (not_not_intro (by decide)))
      refine g_aload_n C dX8_run_165 rfl ?_
      refine g_geti (v := RUN P I 0 7) C F8 (by rw [hw]; decide) rfl (by decide) 30 (by decide) rfl (hts (.fieldLink RX8 234 "FallBenchModel" "ended" "I") (by decide +kernel)) rfl (by rw [lkm_o M1 40 (by decide) (by decide)]; exact (hQ.1 7 (by decide) (by decide)).symm) dX8_run_166 ?_
      exact g_iret C Rr ⟨rfl, ⟨rfl, rfl, rfl, lkm_is hQ, rfl, fun a b h1 h2 h3 => (lkm_o M1 40 (a := a) (b := b) (by omega) (by omega)).trans (hF a b (by omega) (by omega))⟩⟩ dX8_run_169
    | succ dd ih =>
      intro j hj
      refine g_iload_n C dX8_run_105 rfl ?_
      refine g_bipush (v := 40) C dX8_run_106 (by decide) ?_
      refine g_icmp_ge (tgt := 165) C dX8_run_108 (by decide) (fun c108 => absurd c108 (fun y => absurd ((nI_leI (a := 40) (b := j) (by decide) (by omega)).mp y) (by omega))) (fun c108 => ?_)
      refine g_aload_n C dX8_run_111 rfl ?_
      refine g_getr (j := 153) C F8 (by rw [hw]; decide) rfl (by decide) 39 (by decide) rfl (hts (.fieldLink RX8 70 "FallBenchModel" "lookValue" "[I") (by decide +kernel)) rfl (hR (39, 153) (by decide)) dX8_run_112 ?_
      refine g_iload_n C dX8_run_115 rfl ?_
      refine g_aload_n C dX8_run_116 rfl ?_
      refine g_getr (j := 149) C F8 (by rw [hw]; decide) rfl (by decide) 25 (by decide) rfl (hts (.fieldLink RX8 58 "FallBenchModel" "value" "[I") (by decide +kernel)) rfl (hR (25, 149) (by decide)) dX8_run_117 ?_
      refine g_iload_n C dX8_run_120 rfl ?_
      refine g_iald (v := M1 149 j) C (by rw [hw]; decide) rfl (vp_in_nI (N := 40) (by omega) (by decide)) (by rw [nI_clamp (by omega), lkm_o M1 j (by decide) (by omega)]) dX8_run_121 ?_
      refine g_iast C (by rw [hw]; decide) rfl (vp_in_nI (N := 40) (by omega) (by decide)) dX8_run_122 ?_
      refine g_aload_n C dX8_run_123 rfl ?_
      refine g_getr (j := 154) C F8 (by rw [hw]; decide) rfl (by decide) 40 (by decide) rfl (hts (.fieldLink RX8 73 "FallBenchModel" "lookMaker" "[I") (by decide +kernel)) rfl (hR (40, 154) (by decide)) dX8_run_124 ?_
      refine g_iload_n C dX8_run_127 rfl ?_
      refine g_aload_n C dX8_run_128 rfl ?_
      refine g_getr (j := 150) C F8 (by rw [hw]; decide) rfl (by decide) 26 (by decide) rfl (hts (.fieldLink RX8 61 "FallBenchModel" "maker" "[I") (by decide +kernel)) rfl (hR (26, 150) (by decide)) dX8_run_129 ?_
      refine g_iload_n C dX8_run_132 rfl ?_
      refine g_iald (v := M1 150 j) C (by rw [hw]; decide) rfl (vp_in_nI (N := 40) (by omega) (by decide)) (by rw [nI_clamp (by omega), up2_n1 _ _ (by decide), lkm_o M1 j (by decide) (by omega)]) dX8_run_133 ?_
      refine g_iast C (by rw [hw]; decide) rfl (vp_in_nI (N := 40) (by omega) (by decide)) dX8_run_134 ?_
      refine g_aload_n C dX8_run_135 rfl ?_
      refine g_getr (j := 155) C F8 (by rw [hw]; decide) rfl (by decide) 41 (by decide) rfl (hts (.fieldLink RX8 76 "FallBenchModel" "lookCame" "[I") (by decide +kernel)) rfl (hR (41, 155) (by decide)) dX8_run_136 ?_
      refine g_iload_n C dX8_run_139 rfl ?_
      refine g_aload_n C dX8_run_140 rfl ?_
      refine g_getr (j := 151) C F8 (by rw [hw]; decide) rfl (by decide) 27 (by decide) rfl (hts (.fieldLink RX8 64 "FallBenchModel" "came" "[I") (by decide +kernel)) rfl (hR (27, 151) (by decide)) dX8_run_141 ?_
      refine g_iload_n C dX8_run_144 rfl ?_
      refine g_iald (v := M1 151 j) C (by rw [hw]; decide) rfl (vp_in_nI (N := 40) (by omega) (by decide)) (by rw [nI_clamp (by omega), up2_n1 _ _ (by decide), up2_n1 _ _ (by decide), lkm_o M1 j (by decide) (by omega)]) dX8_run_145 ?_
      refine g_iast C (by rw [hw]; decide) rfl (vp_in_nI (N := 40) (by omega) (by decide)) dX8_run_146 ?_
      refine g_aload_n C dX8_run_147 rfl ?_
      refine g_getr (j := 156) C F8 (by rw [hw]; decide) rfl (by decide) 42 (by decide) rfl (hts (.fieldLink RX8 79 "FallBenchModel" "lookOuts" "[I") (by decide +kernel)) rfl (hR (42, 156) (by decide)) dX8_run_148 ?_
      refine g_iload_n C dX8_run_151 rfl ?_
      refine g_aload_n C dX8_run_152 rfl ?_
      refine g_getr (j := 152) C F8 (by rw [hw]; decide) rfl (by decide) 28 (by decide) rfl (hts (.fieldLink RX8 67 "FallBenchModel" "outs" "[I") (by decide +kernel)) rfl (hR (28, 152) (by decide)) dX8_run_153 ?_
      refine g_iload_n C dX8_run_156 rfl ?_
      refine g_iald (v := M1 152 j) C (by rw [hw]; decide) rfl (vp_in_nI (N := 40) (by omega) (by decide)) (by rw [nI_clamp (by omega), up2_n1 _ _ (by decide), up2_n1 _ _ (by decide), up2_n1 _ _ (by decide), lkm_o M1 j (by decide) (by omega)]) dX8_run_157 ?_
      refine g_iast C (by rw [hw]; decide) rfl (vp_in_nI (N := 40) (by omega) (by decide)) dX8_run_158 ?_
      refine g_iinc (v := nI (j + 1)) C V.2.1 dX8_run_159 rfl (nI_succ j).symm (by decide) rfl ?_
      refine g_goto (tgt := 105) C dX8_run_162 (by decide) ?_
      refine Gj_mem (M' := lkm M1 (j + 1)) (by rw [nI_clamp (by omega), lkm_s]) ?_
      exact ih (j + 1) (by omega)
  refine g_iload_n C dX8_run_0 rfl ?_
  refine g_callSf C hts V (gX8_run_X8_isShelf) rfl hdX8_isShelf (by decide) c_X8_isShelf rfl rfl (Nat.le_of_ble_eq_true rfl) dX8_run_1 ?_
  refine g_if_eq (tgt := 15) C dX8_run_4 (by decide) (fun c4 => absurd c4 (isSh_n hs)) (fun c4 => ?_)
  refine g_aload_n C dX8_run_7 rfl ?_
  refine g_iload_n C dX8_run_8 rfl ?_
  refine g_callVf C hts V (i := 134) (gX8_run_X8_isInput) rfl hdX8_isInput (by decide) (c_X8_isInput hw hR) (by rw [hw]; decide) rfl (by decide) rfl rfl (Nat.le_of_ble_eq_true rfl) dX8_run_9 ?_
  refine g_if_ne (tgt := 17) C dX8_run_12 (by decide) (fun c12 => ?_) (fun c12 => absurd c12 (by rw [h9]; exact isIn_n hn hi))
  refine g_aload_n C dX8_run_17 rfl ?_
  refine g_iload_n C dX8_run_18 rfl ?_
  refine g_callVf C hts V (i := 134) (gX8_run_X8_use) rfl hdX8_use (by decide) (c_X8_use hw hR (by omega) hA.1 hB.1) (by rw [hw]; decide) rfl (by decide) rfl rfl (Nat.le_of_ble_eq_true rfl) dX8_run_19 ?_
  refine g_aload_n C dX8_run_22 rfl ?_
  refine g_iload_n C dX8_run_23 rfl ?_
  refine g_callVt C hts V (i := 134) (gX8_run_X8_runOn) rfl hdX8_runOn (by decide) (c_X8_runOn hw hR hs (use_prog hP) (use_in hA) hL hB) (by rw [hw]; decide) rfl (by decide) rfl rfl (Nat.le_of_ble_eq_true rfl) dX8_run_24 (fun v M1 J1 R1 h => ?_)
  obtain ⟨h0, hJ, hR1, hF, hQ⟩ := h
  subst h0
  have hJ := Eq.symm hJ
  subst hJ
  have hR1 := Eq.symm hR1
  subst hR1
  show Gj X 0 0 w M1 J R 27 [some (.ref (w.2.1 134)), some (.int (nI s)), some (.int (nI i)), none] []
  refine g_aload_n C dX8_run_27 rfl ?_
  refine g_iconst (v := 1) C dX8_run_28 (by decide) ?_
  refine g_puti C F8 (by rw [hw]; decide) rfl (by decide) 44 (by decide) rfl (hts (.fieldLink RX8 288 "FallBenchModel" "hasRun" "Z") (by decide +kernel)) rfl rfl rfl rfl dX8_run_29 ?_
  refine g_aload_n C dX8_run_32 rfl ?_
  refine g_getr (j := 157) C F8 (by rw [hw]; decide) rfl (by decide) 43 (by decide) rfl (hts (.fieldLink RX8 82 "FallBenchModel" "look" "[I") (by decide +kernel)) rfl (hR (43, 157) (by decide)) dX8_run_33 ?_
  refine g_iconst (v := 0) C dX8_run_36 (by decide) ?_
  refine g_aload_n C dX8_run_37 rfl ?_
  refine g_geti (v := M1 134 35) C F8 (by rw [hw]; decide) rfl (by decide) 35 (by decide) rfl (hts (.fieldLink RX8 249 "FallBenchModel" "steps" "I") (by decide +kernel)) rfl (by simp only [up2_n1 _ _ (show (134 : Nat) ≠ 157 by decide), up2_n2 _ _ (show (35 : Nat) ≠ 44 by decide)]) dX8_run_38 ?_
  refine g_iast C (by rw [hw]; decide) rfl (vp_in_nI (n := 0) (N := 7) (by decide) (by decide)) dX8_run_41 ?_
  refine g_aload_n C dX8_run_42 rfl ?_
  refine g_getr (j := 157) C F8 (by rw [hw]; decide) rfl (by decide) 43 (by decide) rfl (hts (.fieldLink RX8 82 "FallBenchModel" "look" "[I") (by decide +kernel)) rfl (hR (43, 157) (by decide)) dX8_run_43 ?_
  refine g_iconst (v := 1) C dX8_run_46 (by decide) ?_
  refine g_aload_n C dX8_run_47 rfl ?_
  refine g_geti (v := M1 134 31) C F8 (by rw [hw]; decide) rfl (by decide) 31 (by decide) rfl (hts (.fieldLink RX8 237 "FallBenchModel" "endAct" "I") (by decide +kernel)) rfl (by simp only [up2_n1 _ _ (show (134 : Nat) ≠ 157 by decide), up2_n2 _ _ (show (31 : Nat) ≠ 44 by decide)]) dX8_run_48 ?_
  refine g_iast C (by rw [hw]; decide) rfl (vp_in_nI (n := 1) (N := 7) (by decide) (by decide)) dX8_run_51 ?_
  refine g_aload_n C dX8_run_52 rfl ?_
  refine g_getr (j := 157) C F8 (by rw [hw]; decide) rfl (by decide) 43 (by decide) rfl (hts (.fieldLink RX8 82 "FallBenchModel" "look" "[I") (by decide +kernel)) rfl (hR (43, 157) (by decide)) dX8_run_53 ?_
  refine g_iconst (v := 2) C dX8_run_56 (by decide) ?_
  refine g_aload_n C dX8_run_57 rfl ?_
  refine g_geti (v := M1 134 32) C F8 (by rw [hw]; decide) rfl (by decide) 32 (by decide) rfl (hts (.fieldLink RX8 240 "FallBenchModel" "wrongValue" "I") (by decide +kernel)) rfl (by simp only [up2_n1 _ _ (show (134 : Nat) ≠ 157 by decide), up2_n2 _ _ (show (32 : Nat) ≠ 44 by decide)]) dX8_run_58 ?_
  refine g_iast C (by rw [hw]; decide) rfl (vp_in_nI (n := 2) (N := 7) (by decide) (by decide)) dX8_run_61 ?_
  refine g_aload_n C dX8_run_62 rfl ?_
  refine g_getr (j := 157) C F8 (by rw [hw]; decide) rfl (by decide) 43 (by decide) rfl (hts (.fieldLink RX8 82 "FallBenchModel" "look" "[I") (by decide +kernel)) rfl (hR (43, 157) (by decide)) dX8_run_63 ?_
  refine g_iconst (v := 3) C dX8_run_66 (by decide) ?_
  refine g_aload_n C dX8_run_67 rfl ?_
  refine g_geti (v := M1 134 33) C F8 (by rw [hw]; decide) rfl (by decide) 33 (by decide) rfl (hts (.fieldLink RX8 243 "FallBenchModel" "wrongMaker" "I") (by decide +kernel)) rfl (by simp only [up2_n1 _ _ (show (134 : Nat) ≠ 157 by decide), up2_n2 _ _ (show (33 : Nat) ≠ 44 by decide)]) dX8_run_68 ?_
  refine g_iast C (by rw [hw]; decide) rfl (vp_in_nI (n := 3) (N := 7) (by decide) (by decide)) dX8_run_71 ?_
  refine g_aload_n C dX8_run_72 rfl ?_
  refine g_getr (j := 157) C F8 (by rw [hw]; decide) rfl (by decide) 43 (by decide) rfl (hts (.fieldLink RX8 82 "FallBenchModel" "look" "[I") (by decide +kernel)) rfl (hR (43, 157) (by decide)) dX8_run_73 ?_
  refine g_iconst (v := 4) C dX8_run_76 (by decide) ?_
  refine g_aload_n C dX8_run_77 rfl ?_
  refine g_geti (v := M1 134 34) C F8 (by rw [hw]; decide) rfl (by decide) 34 (by decide) rfl (hts (.fieldLink RX8 246 "FallBenchModel" "wrongBytes" "I") (by decide +kernel)) rfl (by simp only [up2_n1 _ _ (show (134 : Nat) ≠ 157 by decide), up2_n2 _ _ (show (34 : Nat) ≠ 44 by decide)]) dX8_run_78 ?_
  refine g_iast C (by rw [hw]; decide) rfl (vp_in_nI (n := 4) (N := 7) (by decide) (by decide)) dX8_run_81 ?_
  refine g_aload_n C dX8_run_82 rfl ?_
  refine g_getr (j := 157) C F8 (by rw [hw]; decide) rfl (by decide) 43 (by decide) rfl (hts (.fieldLink RX8 82 "FallBenchModel" "look" "[I") (by decide +kernel)) rfl (hR (43, 157) (by decide)) dX8_run_83 ?_
  refine g_iconst (v := 5) C dX8_run_86 (by decide) ?_
  refine g_aload_n C dX8_run_87 rfl ?_
  refine g_geti (v := M1 134 36) C F8 (by rw [hw]; decide) rfl (by decide) 36 (by decide) rfl (hts (.fieldLink RX8 252 "FallBenchModel" "outMany" "I") (by decide +kernel)) rfl (by simp only [up2_n1 _ _ (show (134 : Nat) ≠ 157 by decide), up2_n2 _ _ (show (36 : Nat) ≠ 44 by decide)]) dX8_run_88 ?_
  refine g_iast C (by rw [hw]; decide) rfl (vp_in_nI (n := 5) (N := 7) (by decide) (by decide)) dX8_run_91 ?_
  refine g_aload_n C dX8_run_92 rfl ?_
  refine g_getr (j := 157) C F8 (by rw [hw]; decide) rfl (by decide) 43 (by decide) rfl (hts (.fieldLink RX8 82 "FallBenchModel" "look" "[I") (by decide +kernel)) rfl (hR (43, 157) (by decide)) dX8_run_93 ?_
  refine g_bipush (v := 6) C dX8_run_96 (by decide) ?_
  refine g_aload_n C dX8_run_98 rfl ?_
  refine g_geti (v := M1 134 37) C F8 (by rw [hw]; decide) rfl (by decide) 37 (by decide) rfl (hts (.fieldLink RX8 255 "FallBenchModel" "readMany" "I") (by decide +kernel)) rfl (by simp only [up2_n1 _ _ (show (134 : Nat) ≠ 157 by decide), up2_n2 _ _ (show (37 : Nat) ≠ 44 by decide)]) dX8_run_99 ?_
  refine g_iast C (by rw [hw]; decide) rfl (vp_in_nI (n := 6) (N := 7) (by decide) (by decide)) dX8_run_102 ?_
  refine g_iconst (v := 0) C dX8_run_103 (by decide) ?_
  refine g_istore_n C V.2.1 dX8_run_104 (by decide) rfl ?_
  refine Gj_mem (M' := lkm M1 0) (lkm_0 M1).symm ?_
  exact loop M1 (use_rF hF) hQ 40 0 (by decide)
