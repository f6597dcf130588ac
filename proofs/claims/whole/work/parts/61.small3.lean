/-! small of both -/
theorem okc_pass {P : List act4} {e a m : Int32} : ∀ f I k b, okc P e a m I → okc P e a m (sPass P e a m f I k b).1 := by
  intro f
  induction f with
  | zero => intro I k b h; exact h
  | succ f ih =>
    intro I k b h
    simp only [sPass]
    by_cases c : k < I.length
    · rw [if_pos c]
      by_cases d : okc P e a m (I.eraseIdx k)
      · rw [if_pos d]; exact ih _ k true d
      · rw [if_neg d]; exact ih _ (k + 1) b h
    · rw [if_neg c]; exact h
theorem okc_all {P : List act4} {e a m : Int32} : ∀ f I, okc P e a m I → okc P e a m (sAll P e a m f I) := by
  intro f
  induction f with
  | zero => intro I h; exact h
  | succ f ih =>
    intro I h
    simp only [sAll]
    by_cases c : (sPass P e a m 24 I 0 false).2 = true
    · rw [if_pos c]; exact ih _ (okc_pass 24 I 0 false h)
    · rw [if_neg c]; exact okc_pass 24 I 0 false h
theorem okc_low {P : List act4} {e a m : Int32} {I : List Int32} (h : okc P e a m I) (hB : okI I) : ∀ n, n ≤ I.length → okc P e a m (lowN P e a m n I) := by
  intro n
  induction n with
  | zero => intro _; exact h
  | succ n ih =>
    intro hn
    have h1 := ih (by omega)
    obtain ⟨hok, hlen⟩ := hB.low (P := P) (e := e) (a := a) (m := m) n (by omega)
    show okc P e a m ((lowN P e a m n I).set n (lowV P e a m (lowN P e a m n I) n))
    unfold lowV
    rcases hf : hfd (fun v => okc P e a m ((lowN P e a m n I).set n (nI v))) ((lowN P e a m n I).getD n 0).toNatClampNeg with _ | v
    · show okc P e a m ((lowN P e a m n I).set n ((lowN P e a m n I).getD n 0))
      rw [set_getD9 _ (by omega)]; exact h1
    · exact (hfd_spec hf).2
def zF (M M' : Nat → Nat → Int32) : Prop := ∀ x y, ¬ (x = 134 ∧ (29 ≤ y ∧ y ≤ 38 ∨ 53 ≤ y ∧ y ≤ 56)) → ¬ (148 ≤ x ∧ x ≤ 152) → x ≠ 163 → x ≠ 164 → M' x y = M x y
theorem zF.prog {M M' : Nat → Nat → Int32} {s : Nat} {P : List act4} (hF : zF M M') (h : progN M s P) : progN M' s P :=
  ⟨h.1, by rw [hF 141 s (by omega) (by omega) (by omega) (by omega)]; exact h.2.1, fun k hk => by rw [hF 137 _ (by omega) (by omega) (by omega) (by omega), hF 138 _ (by omega) (by omega) (by omega) (by omega), hF 139 _ (by omega) (by omega) (by omega) (by omega), hF 140 _ (by omega) (by omega) (by omega) (by omega)]; exact h.2.2 k hk⟩
theorem rF.prog {M M' : Nat → Nat → Int32} {s : Nat} {P : List act4} (hF : rF M M') (h : progN M s P) : progN M' s P := zF.prog (fun x y h1 h2 _ _ => hF x y (by omega) h2) h

set_option maxHeartbeats 4000000 in
set_option maxRecDepth 100000 in
theorem c_X7_small_no {l : Launch} {D : va_G} {w : gw} {M : Nat → Nat → Int32} {J : Nat → Nat → Int64} {R : Nat → Nat → Option Nat} (hw : w.1 = 166) (hR : LayC R) {a i : Int32} (hno : isSh a = 0 ∨ isIn (M 0 9) i = 0) : Cf l yX7_small wsX7_small ({ frames := 6, cells := 0, slots := 0, locals := 145 } : Room) D w [.ref (w.2.1 0), .int a, .int i] M J R (some (.int (-1))) M J R := by
  refine Cg.of (own := RX7) (cc := cX7_small) (maxL := 3) (ret := (some .int)) 0 (by decide) rfl rfl (Nat.le_of_ble_eq_true rfl) (fun X C hts V Rr => ?_)
  have F7 : FW X 7 := fun q h => hts q (List.mem_cons_of_mem _ (List.mem_append_left _ (List.mem_append_left _ (List.mem_append_left _ (List.mem_append_left _ (List.mem_append_right _ h))))))
  have F6 : FW X 6 := fun q h => hts q (List.mem_cons_of_mem _ (List.mem_append_left _ (List.mem_append_left _ (List.mem_append_left _ (List.mem_append_right _ h)))))
  have F3 : FW X 3 := fun q h => hts q (List.mem_cons_of_mem _ (List.mem_append_left _ (List.mem_append_left _ (List.mem_append_right _ h))))
  have F0 : FW X 0 := fun q h => hts q (List.mem_cons_of_mem _ (List.mem_append_left _ (List.mem_append_right _ h)))
  have F2 : FW X 2 := fun q h => hts q (List.mem_cons_of_mem _ (List.mem_append_right _ h))
  show Gj X 0 0 w M J R 0 [some (.ref (w.2.1 0)), some (.int a), some (.int i)] []
  refine g_iload_n C dX7_small_0 rfl ?_
  refine g_callSf C hts V (gX7_small_X7_isShelf) rfl hdX7_isShelf (by decide) c_X7_isShelf rfl rfl (Nat.le_of_ble_eq_true rfl) dX7_small_1 ?_
  refine g_if_eq (tgt := 15) C dX7_small_4 (by decide) (fun c4 => ?_) (fun c4 => ?_)
  · refine g_iconst (v := (-1)) C dX7_small_15 (by decide) ?_
    exact g_iret C Rr ⟨rfl, ⟨rfl, rfl⟩⟩ dX7_small_16
  · refine g_aload_n C dX7_small_7 rfl ?_
    refine g_iload_n C dX7_small_8 rfl ?_
    refine g_callVf C hts V (i := 0) (gX7_small_X7_isInput) rfl hdX7_isInput (by decide) (c_X7_isInput hw hR) (by rw [hw]; decide) rfl (by decide) rfl rfl (Nat.le_of_ble_eq_true rfl) dX7_small_9 ?_
    refine g_if_ne (tgt := 17) C dX7_small_12 (by decide) (fun c12 => ?_) (fun c12 => ?_)
    · exact absurd hno (fun z => by rcases z with z | z; exact c4 z; exact c12 z)
    · refine g_iconst (v := (-1)) C dX7_small_15 (by decide) ?_
      exact g_iret C Rr ⟨rfl, ⟨rfl, rfl⟩⟩ dX7_small_16

set_option maxHeartbeats 4000000 in
set_option maxRecDepth 100000 in
theorem c_X7_small {l : Launch} {D : va_G} {w : gw} {M : Nat → Nat → Int32} {J : Nat → Nat → Int64} {R : Nat → Nat → Option Nat} (hw : w.1 = 166) (hR : LayC R) {π : Nat → Nat} (hS : ∀ k, k < 3 → R 3 k = some (π k) ∧ isProg w R (π k)) {a n i : Nat} {P : List act4} {I : List Int32} (ha : a < 3) (hn : n ≤ 30) (h9 : M 0 9 = nI n) (hi : i < n) (hpa : π a + 4 < 25 ∨ 58 < π a) (hP : progIs M (π a) P) (hL : okL P) (hI : rowIs M (74 + 2 * i) I) (hB : okI I) : Ct l yX7_small wsX7_small ({ frames := 6, cells := 0, slots := 0, locals := 145 } : Room) D w [.ref (w.2.1 0), .int (nI a), .int (nI i)] (M, J, R) (fun v u => v = some (.int (if RUN P I 0 8 = -1 then -1 else nI (SMALL P I).length)) ∧ u.2.1 = J ∧ u.2.2 = R ∧ (∀ x y, ¬ (43 ≤ x ∧ x ≤ 58) → u.1 x y = M x y) ∧ (¬ RUN P I 0 8 = -1 → rowIs u.1 43 (SMALL P I) ∧ rowIs u.1 45 (LOWL P I)) ∧ (RUN P I 0 8 = -1 → ∀ x y, ¬ (49 ≤ x ∧ x ≤ 53) → u.1 x y = M x y)) := by
  obtain ⟨p, hpe⟩ : ∃ p, p = π a := ⟨_, rfl⟩
  obtain ⟨q, hqe⟩ : ∃ q, q = 74 + 2 * i := ⟨_, rfl⟩
  have hp := hS a ha
  rw [← hpe] at hp hP hpa
  have hq := row_in hw hR (show i < 30 by omega)
  rw [← hqe] at hq hI
  obtain ⟨hp3, hp⟩ := hp
  obtain ⟨hq3, hq⟩ := hq
  obtain ⟨p_hi4, p_k, p_k1, p_k2, p_k3, p_k4, p_l1, p_l2, p_l3, p_l4, p_r0, p_r1, p_r2, p_r3⟩ := id hp
  have p_hi : p < w.1 := by omega
  have p_hi1 : p + 1 < w.1 := by omega
  have p_hi2 : p + 2 < w.1 := by omega
  have p_hi3 : p + 3 < w.1 := by omega
  obtain ⟨q_hi1, q_k, q_k1, q_0⟩ := id hq
  have q_hi : q < w.1 := by omega
  refine Cg.of (own := RX7) (cc := cX7_small) (maxL := 3) (ret := (some .int)) 0 (by decide) rfl rfl (Nat.le_of_ble_eq_true rfl) (fun X C hts V Rr => ?_)
  have F7 : FW X 7 := fun q h => hts q (List.mem_cons_of_mem _ (List.mem_append_left _ (List.mem_append_left _ (List.mem_append_left _ (List.mem_append_left _ (List.mem_append_right _ h))))))
  have F6 : FW X 6 := fun q h => hts q (List.mem_cons_of_mem _ (List.mem_append_left _ (List.mem_append_left _ (List.mem_append_left _ (List.mem_append_right _ h)))))
  have F3 : FW X 3 := fun q h => hts q (List.mem_cons_of_mem _ (List.mem_append_left _ (List.mem_append_left _ (List.mem_append_right _ h))))
  have F0 : FW X 0 := fun q h => hts q (List.mem_cons_of_mem _ (List.mem_append_left _ (List.mem_append_right _ h)))
  have F2 : FW X 2 := fun q h => hts q (List.mem_cons_of_mem _ (List.mem_append_right _ h))
  show Gj X 0 0 w M J R 0 [some (.ref (w.2.1 0)), some (.int (nI a)), some (.int (nI i))] []
  refine g_iload_n C dX7_small_0 rfl ?_
  refine g_callSf C hts V (gX7_small_X7_isShelf) rfl hdX7_isShelf (by decide) c_X7_isShelf rfl rfl (Nat.le_of_ble_eq_true rfl) dX7_small_1 ?_
  refine g_if_eq (tgt := 15) C dX7_small_4 (by decide) (fun c4 => absurd c4 (isSh_n ha)) (fun c4 => ?_)
  refine g_aload_n C dX7_small_7 rfl ?_
  refine g_iload_n C dX7_small_8 rfl ?_
  refine g_callVf C hts V (i := 0) (gX7_small_X7_isInput) rfl hdX7_isInput (by decide) (c_X7_isInput hw hR) (by rw [hw]; decide) rfl (by decide) rfl rfl (Nat.le_of_ble_eq_true rfl) dX7_small_9 ?_
  refine g_if_ne (tgt := 17) C dX7_small_12 (by decide) (fun c12 => ?_) (fun c12 => absurd c12 (by rw [h9]; exact isIn_n hn hi))
  refine g_aload_n C dX7_small_17 rfl ?_
  refine g_getr (j := 42) C F7 (by rw [hw]; decide) rfl (by decide) 8 (by decide) rfl (hts (.fieldLink RX7 58 "FallBench" "trier" "LFallBench$Trier;") (by decide +kernel)) rfl (hR (0, 8, 42) (by decide)) dX7_small_18 ?_
  refine g_aload_n C dX7_small_21 rfl ?_
  refine g_getr (j := 3) C F7 (by rw [hw]; decide) rfl (by decide) 1 (by decide) rfl (hts (.fieldLink RX7 20 "FallBench" "shelves" "[LFallBench$Program;") (by decide +kernel)) rfl (hR (0, 1, 3) (by decide)) dX7_small_22 ?_
  refine g_iload_n C dX7_small_25 rfl ?_
  refine g_aald (j := p) C (by rw [hw]; decide) (by decide) (vp_in_nI (N := 3) ha (by decide)) (by rw [nI_clamp (by omega)]; exact hp3) dX7_small_26 ?_
  refine g_aload_n C dX7_small_27 rfl ?_
  refine g_getr (j := 19) C F7 (by rw [hw]; decide) rfl (by decide) 3 (by decide) rfl (hts (.fieldLink RX7 31 "FallBench" "inputs" "[LFallBench$Row;") (by decide +kernel)) rfl (hR (0, 3, 19) (by decide)) dX7_small_28 ?_
  refine g_iload_n C dX7_small_31 rfl ?_
  refine g_aald (j := q) C (by rw [hw]; decide) (by decide) (vp_in_nI (N := 30) (by omega) (by decide)) (by rw [nI_clamp (by omega)]; exact hq3) dX7_small_32 ?_
  refine g_callVt C hts V (i := 42) (gX7_small_X6_makeSmall) rfl hdX6_makeSmall (by decide) (c_X6_makeSmall hw hR hp hpa hq (by omega) hP hL hI hB) (by rw [hw]; decide) rfl (by decide) rfl rfl (Nat.le_of_ble_eq_true rfl) dX7_small_33 (fun v M1 J1 R1 h => ?_)
  obtain ⟨h0, hJ, hR1, hF, h2, h3⟩ := h
  subst h0
  have hJ := Eq.symm hJ
  subst hJ
  have hR1 := Eq.symm hR1
  subst hR1
  try dsimp only at hF h2 h3
  refine g_if_eq (tgt := 52) C dX7_small_36 (by decide) (fun c36 => ?_) (fun c36 => ?_)
  · have hE : RUN P I 0 8 = -1 := Classical.byContradiction (fun z => by rw [if_neg z] at c36; exact absurd c36 (by decide))
    refine g_iconst (v := (-1)) C dX7_small_52 (by decide) ?_
    exact g_iret C Rr ⟨rfl, ⟨by rw [if_pos hE], rfl, rfl, hF, h2, h3⟩⟩ dX7_small_53
  · have hE : ¬ RUN P I 0 8 = -1 := fun z => by rw [if_pos z] at c36; exact c36 rfl
    refine g_aload_n C dX7_small_39 rfl ?_
    refine g_getr (j := 42) C F7 (by rw [hw]; decide) rfl (by decide) 8 (by decide) rfl (hts (.fieldLink RX7 58 "FallBench" "trier" "LFallBench$Trier;") (by decide +kernel)) rfl (hR (0, 8, 42) (by decide)) dX7_small_40 ?_
    refine g_getr (j := 43) C F6 (by rw [hw]; decide) rfl (by decide) 0 (by decide) rfl (hts (.fieldLink RX7 195 "FallBench$Trier" "smallest" "LFallBench$Row;") (by decide +kernel)) rfl (hR (42, 0, 43) (by decide)) dX7_small_43 ?_
    refine g_geti (v := nI (SMALL P I).length) C F3 (by rw [hw]; decide) rfl (by decide) 1 (by decide) rfl (hts (.fieldLink RX7 71 "FallBench$Row" "length" "I") (by decide +kernel)) rfl (h2 hE).1.2.1 dX7_small_46 ?_
    refine g_goto (tgt := 53) C dX7_small_49 (by decide) ?_
    exact g_iret C Rr ⟨rfl, ⟨by rw [if_neg hE], rfl, rfl, hF, h2, h3⟩⟩ dX7_small_53

set_option maxHeartbeats 4000000 in
set_option maxRecDepth 100000 in
theorem c_X8_small_no {l : Launch} {D : va_G} {w : gw} {M : Nat → Nat → Int32} {J : Nat → Nat → Int64} {R : Nat → Nat → Option Nat} (hw : w.1 = 166) (hR : LayM R) {a i : Int32} (hno : isSh a = 0 ∨ isIn (M 134 23) i = 0) : Cf l yX8_small wsX8_small ({ frames := 5, cells := 0, slots := 0, locals := 120 } : Room) D w [.ref (w.2.1 134), .int a, .int i] M J R (some (.int (-1))) M J R := by
  refine Cg.of (own := RX8) (cc := cX8_small) (maxL := 5) (ret := (some .int)) 2 (by decide) rfl rfl (Nat.le_of_ble_eq_true rfl) (fun X C hts V Rr => ?_)
  have F8 : FW X 8 := fun q h => hts q (List.mem_cons_of_mem _ (List.mem_append_right _ h))
  show Gj X 0 0 w M J R 0 [some (.ref (w.2.1 134)), some (.int a), some (.int i), none, none] []
  refine g_iload_n C dX8_small_0 rfl ?_
  refine g_callSf C hts V (gX8_small_X8_isShelf) rfl hdX8_isShelf (by decide) c_X8_isShelf rfl rfl (Nat.le_of_ble_eq_true rfl) dX8_small_1 ?_
  refine g_if_eq (tgt := 15) C dX8_small_4 (by decide) (fun c4 => ?_) (fun c4 => ?_)
  · refine g_iconst (v := (-1)) C dX8_small_15 (by decide) ?_
    exact g_iret C Rr ⟨rfl, ⟨rfl, rfl⟩⟩ dX8_small_16
  · refine g_aload_n C dX8_small_7 rfl ?_
    refine g_iload_n C dX8_small_8 rfl ?_
    refine g_callVf C hts V (i := 134) (gX8_small_X8_isInput) rfl hdX8_isInput (by decide) (c_X8_isInput hw hR) (by rw [hw]; decide) rfl (by decide) rfl rfl (Nat.le_of_ble_eq_true rfl) dX8_small_9 ?_
    refine g_if_ne (tgt := 17) C dX8_small_12 (by decide) (fun c12 => ?_) (fun c12 => ?_)
    · exact absurd hno (fun z => by rcases z with z | z; exact c4 z; exact c12 z)
    · refine g_iconst (v := (-1)) C dX8_small_15 (by decide) ?_
      exact g_iret C Rr ⟨rfl, ⟨rfl, rfl⟩⟩ dX8_small_16

set_option maxHeartbeats 4000000 in
set_option maxRecDepth 100000 in
theorem c_X8_isWanted {l : Launch} {D : va_G} {w : gw} {M : Nat → Nat → Int32} {J : Nat → Nat → Int64} {R : Nat → Nat → Option Nat} (hw : w.1 = 166) (hR : LayM R) {s : Nat} {P : List act4} {I : List Int32} {e a m : Int32} (hs : s < 3) (hP : progN M s P) (hL : okL2 P) (hI : inN M I) (hB : okI I) (w1 : M 134 54 = e) (w2 : M 134 55 = a) (w3 : M 134 56 = m) : Ct l yX8_isWanted wsX8_isWanted ({ frames := 3, cells := 0, slots := 0, locals := 75 } : Room) D w [.ref (w.2.1 134), .int (nI s)] (M, J, R) (fun v u => v = some (.int (if okc P e a m I then 1 else 0)) ∧ u.2.1 = J ∧ u.2.2 = R ∧ nF M u.1) := by
  refine Cg.of (own := RX8) (cc := cX8_isWanted) (maxL := 2) (ret := (some .boolean)) 0 (by decide) rfl rfl (Nat.le_of_ble_eq_true rfl) (fun X C hts V Rr => ?_)
  have F8 : FW X 8 := fun q h => hts q (List.mem_cons_of_mem _ (List.mem_append_right _ h))
  show Gj X 0 0 w M J R 0 [some (.ref (w.2.1 134)), some (.int (nI s))] []
  refine g_aload_n C dX8_isWanted_0 rfl ?_
  refine g_iload_n C dX8_isWanted_1 rfl ?_
  refine g_callVt C hts V (i := 134) (gX8_isWanted_X8_runOn) rfl hdX8_runOn (by decide) (c_X8_runOn hw hR hs hP hI hL hB) (by rw [hw]; decide) rfl (by decide) rfl rfl (Nat.le_of_ble_eq_true rfl) dX8_isWanted_2 (fun v M1 J1 R1 h => ?_)
  obtain ⟨h0, hJ, hR1, hF, hQ⟩ := h
  subst h0
  have hJ := Eq.symm hJ
  subst hJ
  have hR1 := Eq.symm hR1
  subst hR1
  try dsimp only at hF hQ
  have g7 : M1 134 30 = RUN P I 0 7 := (hQ.1 7 (by decide) (by decide)).symm
  have g8 : M1 134 31 = RUN P I 0 8 := (hQ.1 8 (by decide) (by decide)).symm
  have g10 : M1 134 33 = RUN P I 0 10 := (hQ.1 10 (by decide) (by decide)).symm
  have v1 : M1 134 54 = e := by rw [hF 134 54 (by omega) (by omega)]; exact w1
  have v2 : M1 134 55 = a := by rw [hF 134 55 (by omega) (by omega)]; exact w2
  have v3 : M1 134 56 = m := by rw [hF 134 56 (by omega) (by omega)]; exact w3
  show Gj X 0 0 w M1 J R 5 [some (.ref (w.2.1 134)), some (.int (nI s))] []
  refine g_aload_n C dX8_isWanted_5 rfl ?_
  refine g_geti (v := RUN P I 0 7) C F8 (by rw [hw]; decide) rfl (by decide) 30 (by decide) rfl (hts (.fieldLink RX8 234 "FallBenchModel" "ended" "I") (by decide +kernel)) rfl g7 dX8_isWanted_6 ?_
  refine g_aload_n C dX8_isWanted_9 rfl ?_
  refine g_geti (v := e) C F8 (by rw [hw]; decide) rfl (by decide) 54 (by decide) rfl (hts (.fieldLink RX8 298 "FallBenchModel" "wantEnd" "I") (by decide +kernel)) rfl v1 dX8_isWanted_10 ?_
  refine g_icmp_ne (tgt := 42) C dX8_isWanted_13 (by decide) (fun c13 => ?_) (fun c13 => ?_)
  · refine g_iconst (v := 0) C dX8_isWanted_42 (by decide) ?_
    exact g_zret C Rr rfl ⟨rfl, ⟨by rw [if_neg (show ¬ okc P e a m I from fun y => c13 y.1)], rfl, rfl, hF⟩⟩ dX8_isWanted_43
  · refine g_aload_n C dX8_isWanted_16 rfl ?_
    refine g_geti (v := RUN P I 0 8) C F8 (by rw [hw]; decide) rfl (by decide) 31 (by decide) rfl (hts (.fieldLink RX8 237 "FallBenchModel" "endAct" "I") (by decide +kernel)) rfl g8 dX8_isWanted_17 ?_
    refine g_aload_n C dX8_isWanted_20 rfl ?_
    refine g_geti (v := a) C F8 (by rw [hw]; decide) rfl (by decide) 55 (by decide) rfl (hts (.fieldLink RX8 301 "FallBenchModel" "wantAct" "I") (by decide +kernel)) rfl v2 dX8_isWanted_21 ?_
    refine g_icmp_ne (tgt := 42) C dX8_isWanted_24 (by decide) (fun c24 => ?_) (fun c24 => ?_)
    · refine g_iconst (v := 0) C dX8_isWanted_42 (by decide) ?_
      exact g_zret C Rr rfl ⟨rfl, ⟨by rw [if_neg (show ¬ okc P e a m I from fun y => c24 y.2.1)], rfl, rfl, hF⟩⟩ dX8_isWanted_43
    · refine g_aload_n C dX8_isWanted_27 rfl ?_
      refine g_geti (v := RUN P I 0 10) C F8 (by rw [hw]; decide) rfl (by decide) 33 (by decide) rfl (hts (.fieldLink RX8 243 "FallBenchModel" "wrongMaker" "I") (by decide +kernel)) rfl g10 dX8_isWanted_28 ?_
      refine g_aload_n C dX8_isWanted_31 rfl ?_
      refine g_geti (v := m) C F8 (by rw [hw]; decide) rfl (by decide) 56 (by decide) rfl (hts (.fieldLink RX8 304 "FallBenchModel" "wantMaker" "I") (by decide +kernel)) rfl v3 dX8_isWanted_32 ?_
      refine g_icmp_ne (tgt := 42) C dX8_isWanted_35 (by decide) (fun c35 => ?_) (fun c35 => ?_)
      · refine g_iconst (v := 0) C dX8_isWanted_42 (by decide) ?_
        exact g_zret C Rr rfl ⟨rfl, ⟨by rw [if_neg (show ¬ okc P e a m I from fun y => c35 y.2.2)], rfl, rfl, hF⟩⟩ dX8_isWanted_43
      · refine g_iconst (v := 1) C dX8_isWanted_38 (by decide) ?_
        refine g_goto (tgt := 43) C dX8_isWanted_39 (by decide) ?_
        exact g_zret C Rr rfl ⟨rfl, ⟨by rw [if_pos (show okc P e a m I from ⟨c13, c24, c35⟩)], rfl, rfl, hF⟩⟩ dX8_isWanted_43

theorem nI_pred8 {j : Nat} (h : 0 < j) : nI j - 1 = nI (j - 1) := by
  obtain ⟨i, rfl⟩ : ∃ i, j = i + 1 := ⟨j - 1, by omega⟩
  rw [nI_succ, Nat.add_sub_cancel]; exact Int32.add_sub_cancel _ _
theorem nI_pred9 {j : Nat} (h : 0 < j) : nI (j - 1) = nI j + Int32.ofInt (-1) := by
  rw [← nI_pred8 h, show Int32.ofInt (-1) = -1 by decide]; exact Int32.sub_eq_add_neg _ _
theorem nI_lt9 {k j : Nat} (h : k < j) (hj : j < 2 ^ 31) : ¬ nI j ≤ nI k := nI_ge h hj

set_option maxHeartbeats 4000000 in
set_option maxRecDepth 100000 in
theorem c_X8_leavesOut {l : Launch} {D : va_G} {w : gw} {M : Nat → Nat → Int32} {J : Nat → Nat → Int64} {R : Nat → Nat → Option Nat} (hw : w.1 = 166) (hR : LayM R) {s : Nat} {P : List act4} {I : List Int32} {e a m : Int32} (hs : s < 3) (hP : progN M s P) (hL : okL2 P) (hI : inN M I) (hB : okI I) (w1 : M 134 54 = e) (w2 : M 134 55 = a) (w3 : M 134 56 = m) {k : Nat} (hk : k < I.length) : Ct l yX8_leavesOut wsX8_leavesOut ({ frames := 4, cells := 0, slots := 0, locals := 96 } : Room) D w [.ref (w.2.1 134), .int (nI s), .int (nI k)] (M, J, R) (fun v u => v = some (.int (if okc P e a m (I.eraseIdx k) then 1 else 0)) ∧ u.2.1 = J ∧ u.2.2 = R ∧ rF M u.1 ∧ inN u.1 (if okc P e a m (I.eraseIdx k) then I.eraseIdx k else I)) := by
  refine Cg.of (own := RX8) (cc := cX8_leavesOut) (maxL := 5) (ret := (some .boolean)) 2 (by decide) rfl rfl (Nat.le_of_ble_eq_true rfl) (fun X C hts V Rr => ?_)
  have F8 : FW X 8 := fun q h => hts q (List.mem_cons_of_mem _ (List.mem_append_right _ h))
  show Gj X 0 0 w M J R 0 [some (.ref (w.2.1 134)), some (.int (nI s)), some (.int (nI k)), none, none] []
  have hl := hB.1
  have hB1 := hB.erase hk
  have hle := len_erase I hk
  have back : ¬ okc P e a m (I.eraseIdx k) → ∀ dd j M0, j = k + dd → j < I.length → rF M M0 → M0 134 29 = nI (I.length - 1) → (∀ x, x < j → M0 148 x = (I.eraseIdx k).getD x 0) → (∀ x, j < x → x < I.length → M0 148 x = I.getD x 0) → Gj X 0 0 w M0 J R 69 [some (.ref (w.2.1 134)), some (.int (nI s)), some (.int (nI k)), some (.int (I.getD k 0)), some (.int (nI j))] [] := by
    intro hok dd
    induction dd with
    | zero =>
      intro j M0 hj hjl hF0 h29 hlo hhi
      obtain rfl : j = k := by omega
      refine g_iload C dX8_leavesOut_69 rfl ?_
      refine g_iload_n C dX8_leavesOut_71 rfl ?_
      refine g_icmp_le (tgt := 97) C dX8_leavesOut_72 (by decide) (fun c72 => ?_) (fun c72 => absurd c72 (not_not_intro (nI_le (Nat.le_refl _) (by omega))))
      refine g_aload_n C dX8_leavesOut_97 rfl ?_
      refine g_getr (j := 148) C F8 (by rw [hw]; decide) rfl (by decide) 24 (by decide) rfl (hts (.fieldLink RX8 55 "FallBenchModel" "bytes" "[I") (by decide +kernel)) rfl (hR (24, 148) (by decide)) dX8_leavesOut_98 ?_
      refine g_iload_n C dX8_leavesOut_101 rfl ?_
      refine g_iload_n C dX8_leavesOut_102 rfl ?_
      refine g_iast C (by rw [hw]; decide) rfl (vp_in_nI (N := 24) (n := j) (by omega) (by decide)) dX8_leavesOut_103 ?_
      refine g_aload_n C dX8_leavesOut_104 rfl ?_
      refine g_dup C dX8_leavesOut_105 rfl ?_
      refine g_geti (v := nI (I.length - 1)) C F8 (by rw [hw]; decide) rfl (by decide) 29 (by decide) rfl (hts (.fieldLink RX8 231 "FallBenchModel" "byteMany" "I") (by decide +kernel)) rfl (by rw [up2_n1 _ _ (by decide)]; exact h29) dX8_leavesOut_106 ?_
      refine g_iconst (v := 1) C dX8_leavesOut_109 (by decide) ?_
      refine g_iadd C dX8_leavesOut_110 ?_
      refine g_puti C F8 (by rw [hw]; decide) rfl (by decide) 29 (by decide) rfl (hts (.fieldLink RX8 231 "FallBenchModel" "byteMany" "I") (by decide +kernel)) rfl rfl rfl rfl dX8_leavesOut_111 ?_
      refine Gj_mem (M' := up2 (up2 M0 148 j (I.getD j 0)) 134 29 (nI I.length)) (by rw [nI_clamp (show j < 2 ^ 31 by omega), ← nI_succ, show I.length - 1 + 1 = I.length by omega]) ?_
      refine g_iconst (v := 0) C dX8_leavesOut_114 (by decide) ?_
      exact g_zret C Rr rfl ⟨rfl, ⟨by rw [if_neg hok], rfl, rfl, fun x y h1 h2 => by dsimp only; rw [up2_n (by omega), up2_n1 _ _ (by omega)]; exact hF0 x y h1 h2, by rw [if_neg hok]; exact ⟨by dsimp only; rw [up2_eq], fun x hx => by dsimp only; rw [up2_n1 _ _ (by decide)]; exact (if hxj : x = j then by rw [hxj, up2_eq] else by rw [up2_n2 _ _ hxj]; exact (if hlt : x < j then by rw [hlo x hlt, getD_erase, if_pos hlt] else hhi x (by omega) hx))⟩⟩⟩ dX8_leavesOut_115
    | succ dd ih =>
      intro j M0 hj hjl hF0 h29 hlo hhi
      refine g_iload C dX8_leavesOut_69 rfl ?_
      refine g_iload_n C dX8_leavesOut_71 rfl ?_
      refine g_icmp_le (tgt := 97) C dX8_leavesOut_72 (by decide) (fun c72 => absurd c72 (nI_lt9 (by omega) (by omega))) (fun c72 => ?_)
      refine g_aload_n C dX8_leavesOut_75 rfl ?_
      refine g_getr (j := 148) C F8 (by rw [hw]; decide) rfl (by decide) 24 (by decide) rfl (hts (.fieldLink RX8 55 "FallBenchModel" "bytes" "[I") (by decide +kernel)) rfl (hR (24, 148) (by decide)) dX8_leavesOut_76 ?_
      refine g_iload C dX8_leavesOut_79 rfl ?_
      refine g_aload_n C dX8_leavesOut_81 rfl ?_
      refine g_getr (j := 148) C F8 (by rw [hw]; decide) rfl (by decide) 24 (by decide) rfl (hts (.fieldLink RX8 55 "FallBenchModel" "bytes" "[I") (by decide +kernel)) rfl (hR (24, 148) (by decide)) dX8_leavesOut_82 ?_
      refine g_iload C dX8_leavesOut_85 rfl ?_
      refine g_iconst (v := 1) C dX8_leavesOut_87 (by decide) ?_
      refine g_isub C dX8_leavesOut_88 ?_
      refine g_iald (v := I.getD j 0) C (by rw [hw]; decide) rfl (by rw [nI_pred8 (show 0 < j by omega)]; exact (vp_in_nI (N := 24) (n := (j - 1)) (by omega) (by decide))) (by rw [nI_pred8 (show 0 < j by omega), nI_clamp (by omega), hlo (j - 1) (by omega), getD_erase, if_neg (by omega), show j - 1 + 1 = j by omega]) dX8_leavesOut_89 ?_
      refine g_iast C (by rw [hw]; decide) rfl (vp_in_nI (N := 24) (n := j) (by omega) (by decide)) dX8_leavesOut_90 ?_
      refine g_iinc (v := nI (j - 1)) C V.2.1 dX8_leavesOut_91 rfl (nI_pred9 (by omega)).symm (by decide) rfl ?_
      refine g_goto (tgt := 69) C dX8_leavesOut_94 (by decide) ?_
      exact ih (j - 1) _ (by omega) (by omega) (fun x y h1 h2 => by rw [up2_n1 _ _ (by omega)]; exact hF0 x y h1 h2) (by rw [up2_n1 _ _ (by decide)]; exact h29) (fun x hx => by rw [nI_clamp (show j < 2 ^ 31 by omega), up2_n2 _ _ (by omega)]; exact hlo x (by omega)) (fun x h1 h2 => by rw [nI_clamp (show j < 2 ^ 31 by omega)]; exact (if hxj : x = j then by rw [hxj, up2_eq] else by rw [up2_n2 _ _ hxj]; exact hhi x (by omega) h2))
  have mid : ∀ M0, rF M M0 → M0 134 29 = nI I.length → (∀ x, x < I.length - 1 → M0 148 x = (I.eraseIdx k).getD x 0) → Gj X 0 0 w M0 J R 43 [some (.ref (w.2.1 134)), some (.int (nI s)), some (.int (nI k)), some (.int (I.getD k 0)), some (.int (nI (I.length - 1)))] [] := by
    intro M0 hF0 h29 hlo
    have hF1 : rF M (up2 M0 134 29 (nI (I.length - 1))) := fun x y h1 h2 => by rw [up2_n (by omega)]; exact hF0 x y h1 h2
    have hI1 : inN (up2 M0 134 29 (nI (I.length - 1))) (I.eraseIdx k) := ⟨by rw [up2_eq, hle], fun x hx => by rw [up2_n1 _ _ (by decide)]; exact hlo x (by omega)⟩
    have q1 : (up2 M0 134 29 (nI (I.length - 1))) 134 54 = e := (hF1 134 54 (by omega) (by omega)).trans w1
    have q2 : (up2 M0 134 29 (nI (I.length - 1))) 134 55 = a := (hF1 134 55 (by omega) (by omega)).trans w2
    have q3 : (up2 M0 134 29 (nI (I.length - 1))) 134 56 = m := (hF1 134 56 (by omega) (by omega)).trans w3
    refine g_aload_n C dX8_leavesOut_43 rfl ?_
    refine g_dup C dX8_leavesOut_44 rfl ?_
    refine g_geti (v := nI I.length) C F8 (by rw [hw]; decide) rfl (by decide) 29 (by decide) rfl (hts (.fieldLink RX8 231 "FallBenchModel" "byteMany" "I") (by decide +kernel)) rfl h29 dX8_leavesOut_45 ?_
    refine g_iconst (v := 1) C dX8_leavesOut_48 (by decide) ?_
    refine g_isub C dX8_leavesOut_49 ?_
    refine g_puti C F8 (by rw [hw]; decide) rfl (by decide) 29 (by decide) rfl (hts (.fieldLink RX8 231 "FallBenchModel" "byteMany" "I") (by decide +kernel)) rfl rfl rfl rfl dX8_leavesOut_50 ?_
    refine Gj_mem (M' := (up2 M0 134 29 (nI (I.length - 1)))) (by rw [nI_pred8 (show 0 < I.length by omega)]) ?_
    refine g_aload_n C dX8_leavesOut_53 rfl ?_
    refine g_iload_n C dX8_leavesOut_54 rfl ?_
    refine g_callVt C hts V (i := 134) (gX8_leavesOut_X8_isWanted) rfl hdX8_isWanted (by decide) (c_X8_isWanted hw hR hs (hF1.prog hP) hL hI1 hB1 q1 q2 q3) (by rw [hw]; decide) rfl (by decide) rfl rfl (Nat.le_of_ble_eq_true rfl) dX8_leavesOut_55 (fun v M1 J1 R1 h => ?_)
    obtain ⟨h0, hJ, hR1, hF⟩ := h
    subst h0
    have hJ := Eq.symm hJ
    subst hJ
    have hR1 := Eq.symm hR1
    subst hR1
    try dsimp only at hF
    have hI2 := hI1.F hF
    have hF2 : rF M M1 := fun x y h1 h2 => (nF_rF hF x y h1 h2).trans (hF1 x y h1 h2)
    show Gj X 0 0 w M1 J R 58 [some (.ref (w.2.1 134)), some (.int (nI s)), some (.int (nI k)), some (.int (I.getD k 0)), some (.int (nI (I.length - 1)))] [.int (if okc P e a m (I.eraseIdx k) then 1 else 0)]
    refine g_if_eq (tgt := 63) C dX8_leavesOut_58 (by decide) (fun c58 => ?_) (fun c58 => ?_)
    · have hok : ¬ okc P e a m (I.eraseIdx k) := fun z => by rw [if_pos z] at c58; exact absurd c58 (by decide)
      refine g_aload_n C dX8_leavesOut_63 rfl ?_
      refine g_geti (v := nI (I.length - 1)) C F8 (by rw [hw]; decide) rfl (by decide) 29 (by decide) rfl (hts (.fieldLink RX8 231 "FallBenchModel" "byteMany" "I") (by decide +kernel)) rfl (by rw [hI2.1, hle]) dX8_leavesOut_64 ?_
      refine g_istore C V.2.1 dX8_leavesOut_67 (by decide) rfl ?_
      exact back hok (I.length - 1 - k) (I.length - 1) M1 (by omega) (by omega) hF2 (by rw [hI2.1, hle]) (fun x hx => hI2.2 x (by omega)) (fun x h1 h2 => by omega)
    · have hok : okc P e a m (I.eraseIdx k) := Classical.byContradiction (fun z => by rw [if_neg z] at c58; exact absurd rfl c58)
      refine g_iconst (v := 1) C dX8_leavesOut_61 (by decide) ?_
      exact g_zret C Rr rfl ⟨rfl, ⟨by rw [if_pos hok], rfl, rfl, hF2, by rw [if_pos hok]; exact hI2⟩⟩ dX8_leavesOut_62
  have loop : ∀ dd j M0, j + dd = I.length - 1 → k ≤ j → (∀ x y, x ≠ 148 → M0 x y = M x y) → (∀ x, x < j → M0 148 x = (I.eraseIdx k).getD x 0) → (∀ x, j ≤ x → x < I.length → M0 148 x = I.getD x 0) → Gj X 0 0 w M0 J R 10 [some (.ref (w.2.1 134)), some (.int (nI s)), some (.int (nI k)), some (.int (I.getD k 0)), some (.int (nI j))] [] := by
    intro dd
    induction dd with
    | zero =>
      intro j M0 hj hkj hF0 hlo hhi
      obtain rfl : j = I.length - 1 := by omega
      refine g_iload C dX8_leavesOut_10 rfl ?_
      refine g_iconst (v := 1) C dX8_leavesOut_12 (by decide) ?_
      refine g_iadd C dX8_leavesOut_13 ?_
      refine g_aload_n C dX8_leavesOut_14 rfl ?_
      refine g_geti (v := nI I.length) C F8 (by rw [hw]; decide) rfl (by decide) 29 (by decide) rfl (hts (.fieldLink RX8 231 "FallBenchModel" "byteMany" "I") (by decide +kernel)) rfl (by rw [hF0 134 29 (by decide)]; exact hI.1) dX8_leavesOut_15 ?_
      refine g_icmp_ge (tgt := 43) C dX8_leavesOut_18 (by decide) (fun c18 => ?_) (fun c18 => absurd c18 (not_not_intro (by rw [← nI_succ]; exact nI_le (by omega) (by omega))))
      exact mid M0 (fun x y h1 h2 => hF0 x y (by omega)) (by rw [hF0 134 29 (by decide)]; exact hI.1) hlo
    | succ dd ih =>
      intro j M0 hj hkj hF0 hlo hhi
      refine g_iload C dX8_leavesOut_10 rfl ?_
      refine g_iconst (v := 1) C dX8_leavesOut_12 (by decide) ?_
      refine g_iadd C dX8_leavesOut_13 ?_
      refine g_aload_n C dX8_leavesOut_14 rfl ?_
      refine g_geti (v := nI I.length) C F8 (by rw [hw]; decide) rfl (by decide) 29 (by decide) rfl (hts (.fieldLink RX8 231 "FallBenchModel" "byteMany" "I") (by decide +kernel)) rfl (by rw [hF0 134 29 (by decide)]; exact hI.1) dX8_leavesOut_15 ?_
      refine g_icmp_ge (tgt := 43) C dX8_leavesOut_18 (by decide) (fun c18 => absurd c18 (by rw [← nI_succ]; exact nI_ge (by omega) (by omega))) (fun c18 => ?_)
      refine g_aload_n C dX8_leavesOut_21 rfl ?_
      refine g_getr (j := 148) C F8 (by rw [hw]; decide) rfl (by decide) 24 (by decide) rfl (hts (.fieldLink RX8 55 "FallBenchModel" "bytes" "[I") (by decide +kernel)) rfl (hR (24, 148) (by decide)) dX8_leavesOut_22 ?_
      refine g_iload C dX8_leavesOut_25 rfl ?_
      refine g_aload_n C dX8_leavesOut_27 rfl ?_
      refine g_getr (j := 148) C F8 (by rw [hw]; decide) rfl (by decide) 24 (by decide) rfl (hts (.fieldLink RX8 55 "FallBenchModel" "bytes" "[I") (by decide +kernel)) rfl (hR (24, 148) (by decide)) dX8_leavesOut_28 ?_
      refine g_iload C dX8_leavesOut_31 rfl ?_
      refine g_iconst (v := 1) C dX8_leavesOut_33 (by decide) ?_
      refine g_iadd C dX8_leavesOut_34 ?_
      refine g_iald (v := I.getD (j + 1) 0) C (by rw [hw]; decide) rfl (by rw [← nI_succ]; exact (vp_in_nI (N := 24) (n := (j + 1)) (by omega) (by decide))) (by rw [← nI_succ, nI_clamp (by omega)]; exact hhi (j + 1) (by omega) (by omega)) dX8_leavesOut_35 ?_
      refine g_iast C (by rw [hw]; decide) rfl (vp_in_nI (N := 24) (n := j) (by omega) (by decide)) dX8_leavesOut_36 ?_
      refine g_iinc (v := nI (j + 1)) C V.2.1 dX8_leavesOut_37 rfl (nI_succ j).symm (by decide) rfl ?_
      refine g_goto (tgt := 10) C dX8_leavesOut_40 (by decide) ?_
      exact ih (j + 1) _ (by omega) (by omega) (fun x y h => by rw [up2_n1 _ _ h]; exact hF0 x y h) (fun x hx => by rw [nI_clamp (show j < 2 ^ 31 by omega)]; exact (if hxj : x = j then by rw [hxj, up2_eq, getD_erase, if_neg (by omega)] else by rw [up2_n2 _ _ hxj]; exact hlo x (by omega))) (fun x h1 h2 => by rw [nI_clamp (show j < 2 ^ 31 by omega), up2_n2 _ _ (by omega)]; exact hhi x (by omega) h2)
  refine g_aload_n C dX8_leavesOut_0 rfl ?_
  refine g_getr (j := 148) C F8 (by rw [hw]; decide) rfl (by decide) 24 (by decide) rfl (hts (.fieldLink RX8 55 "FallBenchModel" "bytes" "[I") (by decide +kernel)) rfl (hR (24, 148) (by decide)) dX8_leavesOut_1 ?_
  refine g_iload_n C dX8_leavesOut_4 rfl ?_
  refine g_iald (v := I.getD k 0) C (by rw [hw]; decide) rfl (vp_in_nI (N := 24) (n := k) (by omega) (by decide)) (by rw [nI_clamp (by omega)]; exact hI.2 k hk) dX8_leavesOut_5 ?_
  refine g_istore_n C V.2.1 dX8_leavesOut_6 (by decide) rfl ?_
  refine g_iload_n C dX8_leavesOut_7 rfl ?_
  refine g_istore C V.2.1 dX8_leavesOut_8 (by decide) rfl ?_
  exact loop (I.length - 1 - k) k M (by omega) (Nat.le_refl _) (fun _ _ _ => rfl) (fun x hx => by rw [getD_erase, if_pos hx]; exact hI.2 x (by omega)) (fun x _ h => hI.2 x h)
