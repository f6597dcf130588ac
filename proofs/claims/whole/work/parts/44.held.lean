/-! HELD -/
theorem ite_iff {p q : Prop} [Decidable p] [Decidable q] (h : p ↔ q) (a b : Int32) : (if p then a else b) = if q then a else b := by
  by_cases hp : p
  · rw [if_pos hp, if_pos (h.mp hp)]
  · rw [if_neg hp, if_neg (fun z => hp (h.mpr z))]
/-- the same told -/
abbrev tS (c d : Int32) (f g : Nat → Int32) : Prop := c = d ∧ ∀ b, b < 40 → nI b < c → f b = g b
def HELD (P1 P2 : List act4) (I : List Int32) : Int32 := if RUN P1 I 0 7 = 0 then (if RUN P2 I 0 7 = 0 then (if tS (RUN P1 I 0 4) (RUN P2 I 0 4) (RUN P1 I 4) (RUN P2 I 4) then 0 else 1) else 3) else if RUN P2 I 0 7 = 0 then 2 else if RUN P1 I 0 7 = RUN P2 I 0 7 then 4 else 5

set_option maxHeartbeats 4000000 in
set_option maxRecDepth 100000 in
theorem c_X0_toldTheSame {l : Launch} {D : va_G} {w : gw} {M : Nat → Nat → Int32} {J : Nat → Nat → Int64} {R : Nat → Nat → Option Nat} {i o c : Nat} (hi : isMach w R i) (ho : isMach w R o) (hc : M i 4 = nI c) (hc2 : c < 2000) : Cf l yX0_toldTheSame wsX0_toldTheSame ({ frames := 0, cells := 0, slots := 0, locals := 0 } : Room) D w [.ref (w.2.1 i), .ref (w.2.1 o)] M J R (some (.int (if tS (M i 4) (M o 4) (M (i + 4)) (M (o + 4)) then 1 else 0))) M J R := by
  obtain ⟨i_hi4, i_k, i_k1, i_k2, i_k3, i_k4, i_l1, i_l2, i_l3, i_l4, i_r0, i_r1, i_r2, i_r3⟩ := id hi
  have i_hi : i < w.1 := by omega
  have i_hi1 : i + 1 < w.1 := by omega
  have i_hi2 : i + 2 < w.1 := by omega
  have i_hi3 : i + 3 < w.1 := by omega
  obtain ⟨o_hi4, o_k, o_k1, o_k2, o_k3, o_k4, o_l1, o_l2, o_l3, o_l4, o_r0, o_r1, o_r2, o_r3⟩ := id ho
  have o_hi : o < w.1 := by omega
  have o_hi1 : o + 1 < w.1 := by omega
  have o_hi2 : o + 2 < w.1 := by omega
  have o_hi3 : o + 3 < w.1 := by omega
  refine Cg.of (own := RX0) (cc := cX0_toldTheSame) (maxL := 3) (ret := (some .boolean)) 1 (by decide) rfl rfl (Nat.le_of_ble_eq_true rfl) (fun X C hts V Rr => ?_)
  have F0 : FW X 0 := fun q h => hts q (List.mem_cons_of_mem _ (List.mem_append_right _ h))
  show Gj X 0 0 w M J R 0 [some (.ref (w.2.1 i)), some (.ref (w.2.1 o)), none] []
  have loop : M i 4 = M o 4 → ∀ dd j, j + dd = 40 → (∀ b, b < j → nI b < M i 4 → M (i + 4) b = M (o + 4) b) → Gj X 0 0 w M J R 15 [some (.ref (w.2.1 i)), some (.ref (w.2.1 o)), some (.int (nI j))] [] := by
    intro he dd
    induction dd with
    | zero =>
      intro j hj hv
      refine g_iload_n C dX0_toldTheSame_15 rfl ?_
      refine g_aload_n C dX0_toldTheSame_16 rfl ?_
      refine g_geti C F0 i_hi i_k (by decide) 4 (by decide) rfl (hts (.fieldLink RX0 24 "FallBench$Machine" "toldCount" "I") (by decide +kernel)) rfl rfl dX0_toldTheSame_17 ?_
      refine g_icmp_ge (tgt := 52) C dX0_toldTheSame_20 (by decide) (fun c20 => ?_) (fun c20 => ?_)
      · refine g_iconst (v := 1) C dX0_toldTheSame_52 (by decide) ?_
        exact g_zret C Rr rfl ⟨rfl, ⟨by rw [if_pos ⟨he, fun b hb hb2 => hv b (by omega) hb2⟩], rfl⟩⟩ dX0_toldTheSame_53
      · refine g_iload_n C dX0_toldTheSame_23 rfl ?_
        refine g_bipush (v := 40) C dX0_toldTheSame_24 (by decide) ?_
        refine g_icmp_ge (tgt := 52) C dX0_toldTheSame_26 (by decide) (fun c26 => ?_) (fun c26 => absurd c26 (not_not_intro (show (40 : Int32) ≤ nI j from nI_le (a := 40) (by omega) (by omega))))
        refine g_iconst (v := 1) C dX0_toldTheSame_52 (by decide) ?_
        exact g_zret C Rr rfl ⟨rfl, ⟨by rw [if_pos ⟨he, fun b hb hb2 => hv b (by omega) hb2⟩], rfl⟩⟩ dX0_toldTheSame_53
    | succ dd ih =>
      intro j hj hv
      refine g_iload_n C dX0_toldTheSame_15 rfl ?_
      refine g_aload_n C dX0_toldTheSame_16 rfl ?_
      refine g_geti C F0 i_hi i_k (by decide) 4 (by decide) rfl (hts (.fieldLink RX0 24 "FallBench$Machine" "toldCount" "I") (by decide +kernel)) rfl rfl dX0_toldTheSame_17 ?_
      refine g_icmp_ge (tgt := 52) C dX0_toldTheSame_20 (by decide) (fun c20 => ?_) (fun c20 => ?_)
      · refine g_iconst (v := 1) C dX0_toldTheSame_52 (by decide) ?_
        exact g_zret C Rr rfl ⟨rfl, ⟨by rw [if_pos ⟨he, fun b hb hb2 => hv b (by rw [hc] at c20 hb2; have := (nI_leI (by omega) (by omega)).mp c20; have := (nI_ltI (by omega) (by omega)).mp hb2; omega) hb2⟩], rfl⟩⟩ dX0_toldTheSame_53
      · refine g_iload_n C dX0_toldTheSame_23 rfl ?_
        refine g_bipush (v := 40) C dX0_toldTheSame_24 (by decide) ?_
        refine g_icmp_ge (tgt := 52) C dX0_toldTheSame_26 (by decide) (fun c26 => absurd c26 (fun y => absurd ((nI_leI (a := 40) (b := j) (by decide) (by omega)).mp y) (by omega))) (fun c26 => ?_)
        refine g_aload_n C dX0_toldTheSame_29 rfl ?_
        refine g_getr (j := (i + 4)) C F0 i_hi i_k (by decide) 3 (by decide) rfl (hts (.fieldLink RX0 21 "FallBench$Machine" "toldValues" "[I") (by decide +kernel)) rfl i_r3 dX0_toldTheSame_30 ?_
        refine g_iload_n C dX0_toldTheSame_33 rfl ?_
        refine g_iald (v := M (i + 4) j) C i_hi4 i_k4 (by rw [i_l4]; exact vp_in_nI (by omega) (by decide)) (by rw [nI_clamp (by omega)]) dX0_toldTheSame_34 ?_
        refine g_aload_n C dX0_toldTheSame_35 rfl ?_
        refine g_getr (j := (o + 4)) C F0 o_hi o_k (by decide) 3 (by decide) rfl (hts (.fieldLink RX0 21 "FallBench$Machine" "toldValues" "[I") (by decide +kernel)) rfl o_r3 dX0_toldTheSame_36 ?_
        refine g_iload_n C dX0_toldTheSame_39 rfl ?_
        refine g_iald (v := M (o + 4) j) C o_hi4 o_k4 (by rw [o_l4]; exact vp_in_nI (by omega) (by decide)) (by rw [nI_clamp (by omega)]) dX0_toldTheSame_40 ?_
        refine g_icmp_eq (tgt := 46) C dX0_toldTheSame_41 (by decide) (fun c41 => ?_) (fun c41 => ?_)
        · refine g_iinc (v := nI (j + 1)) C V.2.1 dX0_toldTheSame_46 rfl (nI_succ j).symm (by decide) rfl ?_
          refine g_goto (tgt := 15) C dX0_toldTheSame_49 (by decide) ?_
          exact ih (j + 1) (by omega) (fun b hb hb2 => by rcases Nat.lt_or_ge b j with y | y; exact hv b y hb2; rw [show b = j by omega]; exact c41)
        · refine g_iconst (v := 0) C dX0_toldTheSame_44 (by decide) ?_
          exact g_zret C Rr rfl ⟨rfl, ⟨by rw [if_neg (fun z => c41 (z.2 j (by omega) (lt_of_nle c20)))], rfl⟩⟩ dX0_toldTheSame_45
  refine g_aload_n C dX0_toldTheSame_0 rfl ?_
  refine g_geti C F0 i_hi i_k (by decide) 4 (by decide) rfl (hts (.fieldLink RX0 24 "FallBench$Machine" "toldCount" "I") (by decide +kernel)) rfl rfl dX0_toldTheSame_1 ?_
  refine g_aload_n C dX0_toldTheSame_4 rfl ?_
  refine g_geti C F0 o_hi o_k (by decide) 4 (by decide) rfl (hts (.fieldLink RX0 24 "FallBench$Machine" "toldCount" "I") (by decide +kernel)) rfl rfl dX0_toldTheSame_5 ?_
  refine g_icmp_eq (tgt := 13) C dX0_toldTheSame_8 (by decide) (fun c8 => ?_) (fun c8 => ?_)
  · refine g_iconst (v := 0) C dX0_toldTheSame_13 (by decide) ?_
    refine g_istore_n C V.2.1 dX0_toldTheSame_14 (by decide) rfl ?_
    exact loop c8 40 0 (by decide) (fun b hb => absurd hb (by omega))
  · refine g_iconst (v := 0) C dX0_toldTheSame_11 (by decide) ?_
    exact g_zret C Rr rfl ⟨rfl, ⟨by rw [if_neg (fun z => c8 z.1)], rfl⟩⟩ dX0_toldTheSame_12

theorem q_told {K L A B : Nat → Nat → Int32} (h : Qk A K) (h' : Qk B L) : tS (A 0 4) (B 0 4) (A 4) (B 4) ↔ tS (K 0 4) (L 0 4) (K 4) (L 4) := by
  have e := h.1 4 (by decide) (by decide)
  have e' := h'.1 4 (by decide) (by decide)
  constructor
  · rintro ⟨h1, h2⟩
    refine ⟨by rw [← e, ← e', h1], fun b hb hb2 => ?_⟩
    rw [← e] at hb2
    rw [← h.2.2 b hb hb2, ← h'.2.2 b hb (by rw [← h1]; exact hb2)]
    exact h2 b hb hb2
  · rintro ⟨h1, h2⟩
    have h1' : A 0 4 = B 0 4 := by rw [e, e', h1]
    refine ⟨h1', fun b hb hb2 => ?_⟩
    rw [h.2.2 b hb hb2, h'.2.2 b hb (by rw [← h1']; exact hb2)]
    exact h2 b hb (by rw [← e]; exact hb2)
/-- how many are told in a RUN -/
theorem run_told (P : List act4) (I : List Int32) : ∃ c, c < 2000 ∧ RUN P I 0 4 = nI c := by
  have h : ∀ (n : Nat) (K : Nat → Nat → Int32) (c : Nat), K 0 4 = nI c → ∃ d, d ≤ c + n ∧ k_it P I n K 0 4 = nI d := by
    intro n
    induction n with
    | zero => intro K c h; exact ⟨c, by omega, h⟩
    | succ n ih =>
      intro K c h
      unfold k_it
      by_cases e : K 0 7 = -1
      · rw [if_pos e]
        rcases k_one_4 (P := P) (I := I) (K := K) with g | g
        · obtain ⟨d, h1, h2⟩ := ih (k_one P I K) c (g.trans h); exact ⟨d, by omega, h2⟩
        · obtain ⟨d, h1, h2⟩ := ih (k_one P I K) (c + 1) (by rw [g, h, nI_succ]); exact ⟨d, by omega, h2⟩
      · rw [if_neg e]; exact ⟨c, by omega, h⟩
  obtain ⟨d, h1, h2⟩ := h 1001 k_0 0 rfl
  exact ⟨d, by omega, h2⟩
theorem progIs.o {M M' : Nat → Nat → Int32} {p : Nat} {P : List act4} (h : progIs M p P) (e : ∀ a b, p ≤ a → a ≤ p + 4 → M' a b = M a b) : progIs M' p P :=
  ⟨h.1, by rw [e p 4 (by omega) (by omega)]; exact h.2.1, fun k hk => by rw [e (p + 1) k (by omega) (by omega), e (p + 2) k (by omega) (by omega), e (p + 3) k (by omega) (by omega), e (p + 4) k (by omega) (by omega)]; exact h.2.2 k hk⟩
theorem rowIs.o {M M' : Nat → Nat → Int32} {q : Nat} {I : List Int32} (h : rowIs M q I) (e : ∀ a b, q ≤ a → a ≤ q + 1 → M' a b = M a b) : rowIs M' q I :=
  ⟨h.1, by rw [e q 1 (by omega) (by omega)]; exact h.2.1, fun k hk => by rw [e (q + 1) k (by omega) (by omega)]; exact h.2.2 k hk⟩

set_option maxHeartbeats 4000000 in
set_option maxRecDepth 100000 in
theorem c_X7_holdOne {l : Launch} {D : va_G} {w : gw} {M : Nat → Nat → Int32} {J : Nat → Nat → Int64} {R : Nat → Nat → Option Nat} (hw : w.1 = 166) (hR : LayC R) {π : Nat → Nat} (hS : ∀ k, k < 3 → R 3 k = some (π k) ∧ isProg w R (π k)) {a b i n : Nat} {P1 P2 : List act4} {I : List Int32} (ha : a < 3) (hb : b < 3) (hn : n ≤ 30) (hi : i < n) (hP1 : progIs M (π a) P1) (hP2 : progIs M (π b) P2) (hL1 : okL P1) (hL2 : okL P2) (hI : rowIs M (74 + 2 * i) I) : Ct l yX7_holdOne wsX7_holdOne ({ frames := 4, cells := 0, slots := 0, locals := 97 } : Room) D w [.ref (w.2.1 0), .int (nI a), .int (nI b), .int (nI i)] (M, J, R) (fun v u => v = some (.int (HELD P1 P2 I)) ∧ u.2.1 = J ∧ u.2.2 = R ∧ ∀ x y, ¬ (25 ≤ x ∧ x ≤ 34) → u.1 x y = M x y) := by
  obtain ⟨p, hpe⟩ : ∃ p, p = π a := ⟨_, rfl⟩
  obtain ⟨r, hre⟩ : ∃ r, r = π b := ⟨_, rfl⟩
  obtain ⟨q, hqe⟩ : ∃ q, q = 74 + 2 * i := ⟨_, rfl⟩
  rw [← hpe] at hP1
  rw [← hre] at hP2
  rw [← hqe] at hI
  have hp := hS a ha
  have hr := hS b hb
  have hq := row_in hw hR (show i < 30 by omega)
  rw [← hpe] at hp
  rw [← hre] at hr
  rw [← hqe] at hq
  obtain ⟨hp3, hp⟩ := hp
  obtain ⟨hr3, hr⟩ := hr
  obtain ⟨hq3, hq⟩ := hq
  obtain ⟨p_hi4, p_k, p_k1, p_k2, p_k3, p_k4, p_l1, p_l2, p_l3, p_l4, p_r0, p_r1, p_r2, p_r3⟩ := id hp
  have p_hi : p < w.1 := by omega
  have p_hi1 : p + 1 < w.1 := by omega
  have p_hi2 : p + 2 < w.1 := by omega
  have p_hi3 : p + 3 < w.1 := by omega
  obtain ⟨r_hi4, r_k, r_k1, r_k2, r_k3, r_k4, r_l1, r_l2, r_l3, r_l4, r_r0, r_r1, r_r2, r_r3⟩ := id hr
  have r_hi : r < w.1 := by omega
  have r_hi1 : r + 1 < w.1 := by omega
  have r_hi2 : r + 2 < w.1 := by omega
  have r_hi3 : r + 3 < w.1 := by omega
  obtain ⟨q_hi1, q_k, q_k1, q_0⟩ := id hq
  have q_hi : q < w.1 := by omega
  have m25 := mach_25 hw hR
  have m30 := mach_30 hw hR
  have ap1 := quad_apart m25 hp (by decide) (by decide) (by decide)
  have ar1 := quad_apart m25 hr (by decide) (by decide) (by decide)
  have aq1 := row_apart m25 hq (by decide) (by decide)
  have ar2 := quad_apart m30 hr (by decide) (by decide) (by decide)
  have aq2 := row_apart m30 hq (by decide) (by decide)
  have hR1 := run_is m25 hp hq hP1 hI hL1
  have hP2' : progIs (m_run M 25 p q) r P2 := hP2.o (fun x y h1 h2 => m_run_out (by omega))
  have hI2 : rowIs (m_run M 25 p q) q I := hI.o (fun x y h1 h2 => m_run_out (by omega))
  have hR2 := run_is m30 hr hq hP2' hI2 hL2
  have hR1' : Qk (win (m_run (m_run M 25 p q) 30 r q) 25) (RUN P1 I) := by
    have e : ∀ x y, x ≤ 4 → win (m_run (m_run M 25 p q) 30 r q) 25 x y = win (m_run M 25 p q) 25 x y := fun x y h => m_run_out (by omega)
    exact ⟨fun y h1 h2 => by rw [e 0 y (by omega)]; exact hR1.1 y h1 (by omega), fun x y h1 h2 h3 => by rw [e x y (by omega)]; exact hR1.2.1 x y h1 h2 h3, fun y h1 h2 => by rw [e 4 y (by omega)]; rw [e 0 4 (by omega)] at h2; exact hR1.2.2 y h1 h2⟩
  have g1 : (m_run (m_run M 25 p q) 30 r q) 25 7 = RUN P1 I 0 7 := hR1'.1 7 (by decide) (by decide)
  have g2 : (m_run (m_run M 25 p q) 30 r q) 30 7 = RUN P2 I 0 7 := hR2.1 7 (by decide) (by decide)
  obtain ⟨c, hc, hc4⟩ := run_told P1 I
  refine Cg.of (own := RX7) (cc := cX7_holdOne) (maxL := 6) (ret := (some .int)) 2 (by decide) rfl rfl (Nat.le_of_ble_eq_true rfl) (fun X C hts V Rr => ?_)
  have F7 : FW X 7 := fun q h => hts q (List.mem_cons_of_mem _ (List.mem_append_left _ (List.mem_append_left _ (List.mem_append_left _ (List.mem_append_right _ h)))))
  have F0 : FW X 0 := fun q h => hts q (List.mem_cons_of_mem _ (List.mem_append_left _ (List.mem_append_left _ (List.mem_append_right _ h))))
  have F2 : FW X 2 := fun q h => hts q (List.mem_cons_of_mem _ (List.mem_append_left _ (List.mem_append_right _ h)))
  have F3 : FW X 3 := fun q h => hts q (List.mem_cons_of_mem _ (List.mem_append_right _ h))
  show Gj X 0 0 w M J R 0 [some (.ref (w.2.1 0)), some (.int (nI a)), some (.int (nI b)), some (.int (nI i)), none, none] []
  refine g_aload_n C dX7_holdOne_0 rfl ?_
  refine g_getr (j := 25) C F7 (by rw [hw]; decide) rfl (by decide) 5 (by decide) rfl (hts (.fieldLink RX7 42 "FallBench" "one" "LFallBench$Machine;") (by decide +kernel)) rfl (hR (0, 5, 25) (by decide)) dX7_holdOne_1 ?_
  refine g_aload_n C dX7_holdOne_4 rfl ?_
  refine g_getr (j := 3) C F7 (by rw [hw]; decide) rfl (by decide) 1 (by decide) rfl (hts (.fieldLink RX7 20 "FallBench" "shelves" "[LFallBench$Program;") (by decide +kernel)) rfl (hR (0, 1, 3) (by decide)) dX7_holdOne_5 ?_
  refine g_iload_n C dX7_holdOne_8 rfl ?_
  refine g_aald (j := p) C (by rw [hw]; decide) (by decide) (vp_in_nI (N := 3) ha (by decide)) (by rw [nI_clamp (by omega)]; exact hp3) dX7_holdOne_9 ?_
  refine g_aload_n C dX7_holdOne_10 rfl ?_
  refine g_getr (j := 19) C F7 (by rw [hw]; decide) rfl (by decide) 3 (by decide) rfl (hts (.fieldLink RX7 31 "FallBench" "inputs" "[LFallBench$Row;") (by decide +kernel)) rfl (hR (0, 3, 19) (by decide)) dX7_holdOne_11 ?_
  refine g_iload_n C dX7_holdOne_14 rfl ?_
  refine g_aald (j := q) C (by rw [hw]; decide) (by decide) (vp_in_nI (N := 30) (by omega) (by decide)) (by rw [nI_clamp (by omega)]; exact hq3) dX7_holdOne_15 ?_
  refine g_callVf C hts V (i := 25) (gX7_holdOne_X0_runWhole) rfl hdX0_runWhole (by decide) (c_X0_runWhole m25 hp hq (okP_of hP1 hL1)) (by rw [hw]; decide) rfl (by decide) rfl rfl (Nat.le_of_ble_eq_true rfl) dX7_holdOne_16 ?_
  refine g_aload_n C dX7_holdOne_19 rfl ?_
  refine g_getr (j := 30) C F7 (by rw [hw]; decide) rfl (by decide) 6 (by decide) rfl (hts (.fieldLink RX7 45 "FallBench" "two" "LFallBench$Machine;") (by decide +kernel)) rfl (hR (0, 6, 30) (by decide)) dX7_holdOne_20 ?_
  refine g_aload_n C dX7_holdOne_23 rfl ?_
  refine g_getr (j := 3) C F7 (by rw [hw]; decide) rfl (by decide) 1 (by decide) rfl (hts (.fieldLink RX7 20 "FallBench" "shelves" "[LFallBench$Program;") (by decide +kernel)) rfl (hR (0, 1, 3) (by decide)) dX7_holdOne_24 ?_
  refine g_iload_n C dX7_holdOne_27 rfl ?_
  refine g_aald (j := r) C (by rw [hw]; decide) (by decide) (vp_in_nI (N := 3) hb (by decide)) (by rw [nI_clamp (by omega)]; exact hr3) dX7_holdOne_28 ?_
  refine g_aload_n C dX7_holdOne_29 rfl ?_
  refine g_getr (j := 19) C F7 (by rw [hw]; decide) rfl (by decide) 3 (by decide) rfl (hts (.fieldLink RX7 31 "FallBench" "inputs" "[LFallBench$Row;") (by decide +kernel)) rfl (hR (0, 3, 19) (by decide)) dX7_holdOne_30 ?_
  refine g_iload_n C dX7_holdOne_33 rfl ?_
  refine g_aald (j := q) C (by rw [hw]; decide) (by decide) (vp_in_nI (N := 30) (by omega) (by decide)) (by rw [nI_clamp (by omega)]; exact hq3) dX7_holdOne_34 ?_
  refine g_callVf C hts V (i := 30) (gX7_holdOne_X0_runWhole) rfl hdX0_runWhole (by decide) (c_X0_runWhole m30 hr hq (okP_of hP2' hL2)) (by rw [hw]; decide) rfl (by decide) rfl rfl (Nat.le_of_ble_eq_true rfl) dX7_holdOne_35 ?_
  refine g_aload_n C dX7_holdOne_38 rfl ?_
  refine g_getr (j := 25) C F7 (by rw [hw]; decide) rfl (by decide) 5 (by decide) rfl (hts (.fieldLink RX7 42 "FallBench" "one" "LFallBench$Machine;") (by decide +kernel)) rfl (hR (0, 5, 25) (by decide)) dX7_holdOne_39 ?_
  refine g_geti (v := RUN P1 I 0 7) C F0 (by rw [hw]; decide) rfl (by decide) 7 (by decide) rfl (hts (.fieldLink RX7 126 "FallBench$Machine" "ended" "I") (by decide +kernel)) rfl g1 dX7_holdOne_42 ?_
  refine g_if_ne (tgt := 52) C dX7_holdOne_45 (by decide) (fun c45 => ?_) (fun c45 => ?_)
  · refine g_iconst (v := 0) C dX7_holdOne_52 (by decide) ?_
    refine g_istore C V.2.1 dX7_holdOne_53 (by decide) rfl ?_
    refine g_aload_n C dX7_holdOne_55 rfl ?_
    refine g_getr (j := 30) C F7 (by rw [hw]; decide) rfl (by decide) 6 (by decide) rfl (hts (.fieldLink RX7 45 "FallBench" "two" "LFallBench$Machine;") (by decide +kernel)) rfl (hR (0, 6, 30) (by decide)) dX7_holdOne_56 ?_
    refine g_geti (v := RUN P2 I 0 7) C F0 (by rw [hw]; decide) rfl (by decide) 7 (by decide) rfl (hts (.fieldLink RX7 126 "FallBench$Machine" "ended" "I") (by decide +kernel)) rfl g2 dX7_holdOne_59 ?_
    refine g_if_ne (tgt := 69) C dX7_holdOne_62 (by decide) (fun c62 => ?_) (fun c62 => ?_)
    · refine g_iconst (v := 0) C dX7_holdOne_69 (by decide) ?_
      refine g_istore C V.2.1 dX7_holdOne_70 (by decide) rfl ?_
      refine g_iload C dX7_holdOne_72 rfl ?_
      refine g_if_eq (tgt := 102) C dX7_holdOne_74 (by decide) (fun c74 => ?_) (fun c74 => absurd c74 (by decide))
      refine g_iload C dX7_holdOne_102 rfl ?_
      refine g_if_eq (tgt := 109) C dX7_holdOne_104 (by decide) (fun c104 => ?_) (fun c104 => absurd c104 (by decide))
      refine g_iload C dX7_holdOne_109 rfl ?_
      refine g_if_eq (tgt := 116) C dX7_holdOne_111 (by decide) (fun c111 => ?_) (fun c111 => absurd c111 (by decide))
      refine g_aload_n C dX7_holdOne_116 rfl ?_
      refine g_getr (j := 25) C F7 (by rw [hw]; decide) rfl (by decide) 5 (by decide) rfl (hts (.fieldLink RX7 42 "FallBench" "one" "LFallBench$Machine;") (by decide +kernel)) rfl (hR (0, 5, 25) (by decide)) dX7_holdOne_117 ?_
      refine g_geti (v := RUN P1 I 0 7) C F0 (by rw [hw]; decide) rfl (by decide) 7 (by decide) rfl (hts (.fieldLink RX7 126 "FallBench$Machine" "ended" "I") (by decide +kernel)) rfl g1 dX7_holdOne_120 ?_
      refine g_aload_n C dX7_holdOne_123 rfl ?_
      refine g_getr (j := 30) C F7 (by rw [hw]; decide) rfl (by decide) 6 (by decide) rfl (hts (.fieldLink RX7 45 "FallBench" "two" "LFallBench$Machine;") (by decide +kernel)) rfl (hR (0, 6, 30) (by decide)) dX7_holdOne_124 ?_
      refine g_geti (v := RUN P2 I 0 7) C F0 (by rw [hw]; decide) rfl (by decide) 7 (by decide) rfl (hts (.fieldLink RX7 126 "FallBench$Machine" "ended" "I") (by decide +kernel)) rfl g2 dX7_holdOne_127 ?_
      refine g_icmp_ne (tgt := 137) C dX7_holdOne_130 (by decide) (fun c130 => ?_) (fun c130 => ?_)
      · refine g_iconst (v := 5) C dX7_holdOne_137 (by decide) ?_
        exact g_iret C Rr ⟨rfl, ⟨by simp only [HELD]; rw [if_neg c45, if_neg c62, if_neg c130], rfl, rfl, fun a b h => by show (m_run (m_run M 25 p q) 30 r q) a b = M a b; rw [m_run_out (by omega), m_run_out (by omega)]⟩⟩ dX7_holdOne_138
      · refine g_iconst (v := 4) C dX7_holdOne_133 (by decide) ?_
        refine g_goto (tgt := 138) C dX7_holdOne_134 (by decide) ?_
        exact g_iret C Rr ⟨rfl, ⟨by simp only [HELD]; rw [if_neg c45, if_neg c62, if_pos c130], rfl, rfl, fun a b h => by show (m_run (m_run M 25 p q) 30 r q) a b = M a b; rw [m_run_out (by omega), m_run_out (by omega)]⟩⟩ dX7_holdOne_138
    · refine g_iconst (v := 1) C dX7_holdOne_65 (by decide) ?_
      refine g_goto (tgt := 70) C dX7_holdOne_66 (by decide) ?_
      refine g_istore C V.2.1 dX7_holdOne_70 (by decide) rfl ?_
      refine g_iload C dX7_holdOne_72 rfl ?_
      refine g_if_eq (tgt := 102) C dX7_holdOne_74 (by decide) (fun c74 => ?_) (fun c74 => absurd c74 (by decide))
      refine g_iload C dX7_holdOne_102 rfl ?_
      refine g_if_eq (tgt := 109) C dX7_holdOne_104 (by decide) (fun c104 => absurd c104 (by decide)) (fun c104 => ?_)
      refine g_iconst (v := 2) C dX7_holdOne_107 (by decide) ?_
      exact g_iret C Rr ⟨rfl, ⟨by simp only [HELD]; rw [if_neg c45, if_pos c62], rfl, rfl, fun a b h => by show (m_run (m_run M 25 p q) 30 r q) a b = M a b; rw [m_run_out (by omega), m_run_out (by omega)]⟩⟩ dX7_holdOne_108
  · refine g_iconst (v := 1) C dX7_holdOne_48 (by decide) ?_
    refine g_goto (tgt := 53) C dX7_holdOne_49 (by decide) ?_
    refine g_istore C V.2.1 dX7_holdOne_53 (by decide) rfl ?_
    refine g_aload_n C dX7_holdOne_55 rfl ?_
    refine g_getr (j := 30) C F7 (by rw [hw]; decide) rfl (by decide) 6 (by decide) rfl (hts (.fieldLink RX7 45 "FallBench" "two" "LFallBench$Machine;") (by decide +kernel)) rfl (hR (0, 6, 30) (by decide)) dX7_holdOne_56 ?_
    refine g_geti (v := RUN P2 I 0 7) C F0 (by rw [hw]; decide) rfl (by decide) 7 (by decide) rfl (hts (.fieldLink RX7 126 "FallBench$Machine" "ended" "I") (by decide +kernel)) rfl g2 dX7_holdOne_59 ?_
    refine g_if_ne (tgt := 69) C dX7_holdOne_62 (by decide) (fun c62 => ?_) (fun c62 => ?_)
    · refine g_iconst (v := 0) C dX7_holdOne_69 (by decide) ?_
      refine g_istore C V.2.1 dX7_holdOne_70 (by decide) rfl ?_
      refine g_iload C dX7_holdOne_72 rfl ?_
      refine g_if_eq (tgt := 102) C dX7_holdOne_74 (by decide) (fun c74 => absurd c74 (by decide)) (fun c74 => ?_)
      refine g_iload C dX7_holdOne_77 rfl ?_
      refine g_if_eq (tgt := 102) C dX7_holdOne_79 (by decide) (fun c79 => ?_) (fun c79 => absurd c79 (by decide))
      refine g_iload C dX7_holdOne_102 rfl ?_
      refine g_if_eq (tgt := 109) C dX7_holdOne_104 (by decide) (fun c104 => ?_) (fun c104 => absurd c104 (by decide))
      refine g_iload C dX7_holdOne_109 rfl ?_
      refine g_if_eq (tgt := 116) C dX7_holdOne_111 (by decide) (fun c111 => absurd c111 (by decide)) (fun c111 => ?_)
      refine g_iconst (v := 3) C dX7_holdOne_114 (by decide) ?_
      exact g_iret C Rr ⟨rfl, ⟨by simp only [HELD]; rw [if_pos c45, if_neg c62], rfl, rfl, fun a b h => by show (m_run (m_run M 25 p q) 30 r q) a b = M a b; rw [m_run_out (by omega), m_run_out (by omega)]⟩⟩ dX7_holdOne_115
    · refine g_iconst (v := 1) C dX7_holdOne_65 (by decide) ?_
      refine g_goto (tgt := 70) C dX7_holdOne_66 (by decide) ?_
      refine g_istore C V.2.1 dX7_holdOne_70 (by decide) rfl ?_
      refine g_iload C dX7_holdOne_72 rfl ?_
      refine g_if_eq (tgt := 102) C dX7_holdOne_74 (by decide) (fun c74 => absurd c74 (by decide)) (fun c74 => ?_)
      refine g_iload C dX7_holdOne_77 rfl ?_
      refine g_if_eq (tgt := 102) C dX7_holdOne_79 (by decide) (fun c79 => absurd c79 (by decide)) (fun c79 => ?_)
      refine g_aload_n C dX7_holdOne_82 rfl ?_
      refine g_getr (j := 25) C F7 (by rw [hw]; decide) rfl (by decide) 5 (by decide) rfl (hts (.fieldLink RX7 42 "FallBench" "one" "LFallBench$Machine;") (by decide +kernel)) rfl (hR (0, 5, 25) (by decide)) dX7_holdOne_83 ?_
      refine g_aload_n C dX7_holdOne_86 rfl ?_
      refine g_getr (j := 30) C F7 (by rw [hw]; decide) rfl (by decide) 6 (by decide) rfl (hts (.fieldLink RX7 45 "FallBench" "two" "LFallBench$Machine;") (by decide +kernel)) rfl (hR (0, 6, 30) (by decide)) dX7_holdOne_87 ?_
      refine g_callVf C hts V (i := 25) (gX7_holdOne_X0_toldTheSame) rfl hdX0_toldTheSame (by decide) (Cf.to (c_X0_toldTheSame m25 m30 (c := c) ((hR1'.1 4 (by decide) (by decide)).trans hc4) hc) (congrArg (fun z => some (Value.int z)) (ite_iff (q_told hR1' hR2.k) 1 0)) rfl) (by rw [hw]; decide) rfl (by decide) rfl rfl (Nat.le_of_ble_eq_true rfl) dX7_holdOne_90 ?_
      refine g_if_eq (tgt := 100) C dX7_holdOne_93 (by decide) (fun c93 => ?_) (fun c93 => ?_)
      · refine g_iconst (v := 1) C dX7_holdOne_100 (by decide) ?_
        exact g_iret C Rr ⟨rfl, ⟨by simp only [HELD]; rw [if_pos c45, if_pos c62, if_neg (fun y => by rw [if_pos y] at c93; exact absurd c93 (by decide))], rfl, rfl, fun a b h => by show (m_run (m_run M 25 p q) 30 r q) a b = M a b; rw [m_run_out (by omega), m_run_out (by omega)]⟩⟩ dX7_holdOne_101
      · refine g_iconst (v := 0) C dX7_holdOne_96 (by decide) ?_
        refine g_goto (tgt := 101) C dX7_holdOne_97 (by decide) ?_
        exact g_iret C Rr ⟨rfl, ⟨by simp only [HELD]; rw [if_pos c45, if_pos c62, if_pos (Classical.byContradiction (fun y => c93 (by rw [if_neg y])))], rfl, rfl, fun a b h => by show (m_run (m_run M 25 p q) 30 r q) a b = M a b; rw [m_run_out (by omega), m_run_out (by omega)]⟩⟩ dX7_holdOne_101
