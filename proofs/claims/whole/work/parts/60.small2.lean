/-! SMALL and LOW whole; makeSmall of the class -/
def sAll (P : List act4) (e a m : Int32) : Nat → List Int32 → List Int32
  | 0, I => I
  | f + 1, I => if (sPass P e a m 24 I 0 false).2 = true then sAll P e a m f (sPass P e a m 24 I 0 false).1 else (sPass P e a m 24 I 0 false).1
def lowN (P : List act4) (e a m : Int32) : Nat → List Int32 → List Int32
  | 0, I => I
  | n + 1, I => (lowN P e a m n I).set n (lowV P e a m (lowN P e a m n I) n)
def SMALL (P : List act4) (I : List Int32) : List Int32 := sAll P (RUN P I 0 7) (RUN P I 0 8) (RUN P I 0 10) 25 I
def LOWL (P : List act4) (I : List Int32) : List Int32 := lowN P (RUN P I 0 7) (RUN P I 0 8) (RUN P I 0 10) (SMALL P I).length (SMALL P I)
theorem okI.erase {I : List Int32} (h : okI I) {k : Nat} (hk : k < I.length) : okI (I.eraseIdx k) := by
  have hl := len_erase I hk
  refine ⟨by have := h.1; omega, fun j hj => ?_⟩
  rw [getD_erase]
  by_cases c : j < k
  · rw [if_pos c]; exact h.2 j (by omega)
  · rw [if_neg c]; exact h.2 (j + 1) (by omega)
theorem okI.pass {P : List act4} {e a m : Int32} : ∀ f {I : List Int32} k b, okI I → okI (sPass P e a m f I k b).1 := by
  intro f
  induction f with
  | zero => intro I k b h; exact h
  | succ f ih =>
    intro I k b h
    simp only [sPass]
    by_cases c : k < I.length
    · rw [if_pos c]
      by_cases d : okc P e a m (I.eraseIdx k)
      · rw [if_pos d]; exact ih k true (h.erase c)
      · rw [if_neg d]; exact ih (k + 1) b h
    · rw [if_neg c]; exact h
theorem okI.all {P : List act4} {e a m : Int32} : ∀ f {I : List Int32}, okI I → okI (sAll P e a m f I) := by
  intro f
  induction f with
  | zero => intro I h; exact h
  | succ f ih =>
    intro I h
    simp only [sAll]
    by_cases c : (sPass P e a m 24 I 0 false).2 = true
    · rw [if_pos c]; exact ih (h.pass 24 0 false)
    · rw [if_neg c]; exact h.pass 24 0 false
theorem byte_nat {I : List Int32} (h : okI I) {k : Nat} (hk : k < I.length) : ∃ o, o < 256 ∧ I.getD k 0 = nI o := by
  obtain ⟨h1, h2⟩ := h.2 k hk
  obtain ⟨j, hj, e⟩ := nI_of h1
  rw [e] at h2
  exact ⟨j, (nI_ltI (b := 256) hj (by decide)).mp h2, e⟩
theorem lowV_ok {P : List act4} {e a m : Int32} {I : List Int32} {k : Nat} (h : okI I) (hk : k < I.length) : ∃ v, v < 256 ∧ lowV P e a m I k = nI v := by
  obtain ⟨o, ho, eo⟩ := byte_nat h hk
  unfold lowV
  rcases hf : hfd (fun v => okc P e a m (I.set k (nI v))) (I.getD k 0).toNatClampNeg with _ | v
  · exact ⟨o, ho, eo⟩
  · have := (hfd_spec hf).1
    rw [eo, nI_clamp (by omega)] at this
    exact ⟨v, by omega, rfl⟩
theorem okI.low {P : List act4} {e a m : Int32} {I : List Int32} (h : okI I) : ∀ n, n ≤ I.length → okI (lowN P e a m n I) ∧ (lowN P e a m n I).length = I.length := by
  intro n
  induction n with
  | zero => intro _; exact ⟨h, rfl⟩
  | succ n ih =>
    intro hn
    obtain ⟨h1, h2⟩ := ih (by omega)
    simp only [lowN]
    refine ⟨?_, by rw [List.length_set]; exact h2⟩
    obtain ⟨v, hv, ev⟩ := lowV_ok (P := P) (e := e) (a := a) (m := m) h1 (show n < (lowN P e a m n I).length by omega)
    rw [ev]; exact h1.set hv n

set_option maxHeartbeats 4000000 in
set_option maxRecDepth 100000 in
theorem c_X6_makeSmall {l : Launch} {D : va_G} {w : gw} {M : Nat → Nat → Int32} {J : Nat → Nat → Int64} {R : Nat → Nat → Option Nat} (hw : w.1 = 166) (hR : LayC R) {p f : Nat} {P : List act4} {I : List Int32} (hp : isProg w R p) (hpa : p + 4 < 25 ∨ 58 < p) (hf : isRow w R f) (hfa : 58 < f) (hP : progIs M p P) (hL : okL P) (hI : rowIs M f I) (hB : okI I) : Ct l yX6_makeSmall wsX6_makeSmall ({ frames := 5, cells := 0, slots := 0, locals := 121 } : Room) D w [.ref (w.2.1 42), .ref (w.2.1 p), .ref (w.2.1 f)] (M, J, R) (fun v u => v = some (.int (if RUN P I 0 8 = -1 then 0 else 1)) ∧ u.2.1 = J ∧ u.2.2 = R ∧ (∀ x y, ¬ (43 ≤ x ∧ x ≤ 58) → u.1 x y = M x y) ∧ (¬ RUN P I 0 8 = -1 → rowIs u.1 43 (SMALL P I) ∧ rowIs u.1 45 (LOWL P I)) ∧ (RUN P I 0 8 = -1 → ∀ x y, ¬ (49 ≤ x ∧ x ≤ 53) → u.1 x y = M x y)) := by
  obtain ⟨p_hi4, p_k, p_k1, p_k2, p_k3, p_k4, p_l1, p_l2, p_l3, p_l4, p_r0, p_r1, p_r2, p_r3⟩ := id hp
  have p_hi : p < w.1 := by omega
  have p_hi1 : p + 1 < w.1 := by omega
  have p_hi2 : p + 2 < w.1 := by omega
  have p_hi3 : p + 3 < w.1 := by omega
  obtain ⟨f_hi1, f_k, f_k1, f_0⟩ := id hf
  have f_hi : f < w.1 := by omega
  have r43 := row_43 hw hR
  have r45 := row_45 hw hR
  have m49 := mach_49 hw hR
  have hl24 : I.length ≤ 24 := hB.1
  have hr := run_is m49 hp hf hP hI hL
  refine Cg.of (own := RX6) (cc := cX6_makeSmall) (maxL := 5) (ret := (some .boolean)) 2 (by decide) rfl rfl (Nat.le_of_ble_eq_true rfl) (fun X C hts V Rr => ?_)
  have F6 : FW X 6 := fun q h => hts q (List.mem_cons_of_mem _ (List.mem_append_left _ (List.mem_append_left _ (List.mem_append_left _ (List.mem_append_right _ h)))))
  have F3 : FW X 3 := fun q h => hts q (List.mem_cons_of_mem _ (List.mem_append_left _ (List.mem_append_left _ (List.mem_append_right _ h))))
  have F0 : FW X 0 := fun q h => hts q (List.mem_cons_of_mem _ (List.mem_append_left _ (List.mem_append_right _ h)))
  have F2 : FW X 2 := fun q h => hts q (List.mem_cons_of_mem _ (List.mem_append_right _ h))
  show Gj X 0 0 w M J R 0 [some (.ref (w.2.1 42)), some (.ref (w.2.1 p)), some (.ref (w.2.1 f)), none, none] []
  have hI1 : rowIs (m_run M 49 p f) f I := hI.o (fun x y h1 h2 => m_run_out (by omega))
  by_cases hE : RUN P I 0 8 = -1
  · have hE9 : (m_run M 49 p f) 49 8 = -1 := (hr.1 8 (by decide) (by decide)).trans hE
    refine g_aload_n C dX6_makeSmall_0 rfl ?_
    refine g_getr (j := 49) C F6 (by rw [hw]; decide) rfl (by decide) 5 (by decide) rfl (hts (.fieldLink RX6 36 "FallBench$Trier" "asItIs" "LFallBench$Machine;") (by decide +kernel)) rfl (hR (42, 5, 49) (by decide)) dX6_makeSmall_1 ?_
    refine g_aload_n C dX6_makeSmall_4 rfl ?_
    refine g_aload_n C dX6_makeSmall_5 rfl ?_
    refine g_callVf C hts V (i := 49) (gX6_makeSmall_X0_runWhole) rfl hdX0_runWhole (by decide) (c_X0_runWhole m49 hp hf (okP_of hP hL)) (by rw [hw]; decide) rfl (by decide) rfl rfl (Nat.le_of_ble_eq_true rfl) dX6_makeSmall_6 ?_
    refine g_aload_n C dX6_makeSmall_9 rfl ?_
    refine g_getr (j := 49) C F6 (by rw [hw]; decide) rfl (by decide) 5 (by decide) rfl (hts (.fieldLink RX6 36 "FallBench$Trier" "asItIs" "LFallBench$Machine;") (by decide +kernel)) rfl (hR (42, 5, 49) (by decide)) dX6_makeSmall_10 ?_
    refine g_callVf C hts V (i := 49) (gX6_makeSmall_X0_endedAtAct) rfl hdX0_endedAtAct (by decide) (c_X0_endedAtAct m49) (by rw [hw]; decide) rfl (by decide) rfl rfl (Nat.le_of_ble_eq_true rfl) dX6_makeSmall_13 ?_
    refine g_if_ne (tgt := 21) C dX6_makeSmall_16 (by decide) (fun c16 => absurd c16 (not_not_intro (if_pos hE9))) (fun c16 => ?_)
    refine g_iconst (v := 0) C dX6_makeSmall_19 (by decide) ?_
    exact g_zret C Rr rfl ⟨rfl, ⟨by rw [if_pos hE], rfl, rfl, fun x y h => m_run_out (i := 49) (a := x) (by omega), fun z => absurd hE z, fun _ x y h => m_run_out (i := 49) (a := x) (by omega)⟩⟩ dX6_makeSmall_20
  have hE9 : ¬ (m_run M 49 p f) 49 8 = -1 := fun z => hE ((hr.1 8 (by decide) (by decide)).symm.trans z)
  have hcp : rowIs (b_cp (m_run M 49 p f) 43 f I.length) 43 I := row_cp hI1 hl24
  have hoS : okI (SMALL P I) := hB.all 25
  have low : ∀ dd k M0 (x : Int32), k + dd = (SMALL P I).length → (∀ x y, ¬ (43 ≤ x ∧ x ≤ 58) → M0 x y = M x y) → M0 49 7 = RUN P I 0 7 → M0 49 8 = RUN P I 0 8 → M0 49 10 = RUN P I 0 10 → rowIs M0 43 (SMALL P I) → rowIs M0 45 (lowN P (RUN P I 0 7) (RUN P I 0 8) (RUN P I 0 10) k (SMALL P I)) → Gj X 0 0 w M0 J R 71 [some (.ref (w.2.1 42)), some (.ref (w.2.1 p)), some (.ref (w.2.1 f)), some (.int x), some (.int (nI k))] [] := by
    intro dd
    induction dd with
    | zero =>
      intro k M0 x hk hF0 w1 w2 w3 hS0 hL0
      obtain rfl : k = (SMALL P I).length := by omega
      have hlen := (hoS.low (P := P) (e := RUN P I 0 7) (a := RUN P I 0 8) (m := RUN P I 0 10) (SMALL P I).length (Nat.le_refl _)).2
      have h24 := hoS.1
      refine g_iload C dX6_makeSmall_71 rfl ?_
      refine g_aload_n C dX6_makeSmall_73 rfl ?_
      refine g_getr (j := 45) C F6 (by rw [hw]; decide) rfl (by decide) 1 (by decide) rfl (hts (.fieldLink RX6 20 "FallBench$Trier" "lowest" "LFallBench$Row;") (by decide +kernel)) rfl (hR (42, 1, 45) (by decide)) dX6_makeSmall_74 ?_
      refine g_geti (v := nI (SMALL P I).length) C F3 (by rw [hw]; decide) rfl (by decide) 1 (by decide) rfl (hts (.fieldLink RX6 59 "FallBench$Row" "length" "I") (by decide +kernel)) rfl (by rw [← hlen]; exact hL0.2.1) dX6_makeSmall_77 ?_
      refine g_icmp_ge (tgt := 96) C dX6_makeSmall_80 (by decide) (fun c80 => ?_) (fun c80 => absurd c80 (not_not_intro (nI_le (Nat.le_refl _) (by omega))))
      refine g_iconst (v := 1) C dX6_makeSmall_96 (by decide) ?_
      exact g_zret C Rr rfl ⟨rfl, ⟨by rw [if_neg hE], rfl, rfl, hF0, fun _ => ⟨hS0, hL0⟩, fun z => absurd z hE⟩⟩ dX6_makeSmall_97
    | succ dd ih =>
      intro k M0 x hk hF0 w1 w2 w3 hS0 hL0
      have h24 := hoS.1
      obtain ⟨hok, hlen⟩ := hoS.low (P := P) (e := RUN P I 0 7) (a := RUN P I 0 8) (m := RUN P I 0 10) k (by omega)
      obtain ⟨o, ho, eo⟩ := byte_nat hok (k := k) (by omega)
      have hP0 : progIs M0 p P := hP.o (fun x y h1 h2 => hF0 x y (by omega))
      refine g_iload C dX6_makeSmall_71 rfl ?_
      refine g_aload_n C dX6_makeSmall_73 rfl ?_
      refine g_getr (j := 45) C F6 (by rw [hw]; decide) rfl (by decide) 1 (by decide) rfl (hts (.fieldLink RX6 20 "FallBench$Trier" "lowest" "LFallBench$Row;") (by decide +kernel)) rfl (hR (42, 1, 45) (by decide)) dX6_makeSmall_74 ?_
      refine g_geti (v := nI (SMALL P I).length) C F3 (by rw [hw]; decide) rfl (by decide) 1 (by decide) rfl (hts (.fieldLink RX6 59 "FallBench$Row" "length" "I") (by decide +kernel)) rfl (by rw [← hlen]; exact hL0.2.1) dX6_makeSmall_77 ?_
      refine g_icmp_ge (tgt := 96) C dX6_makeSmall_80 (by decide) (fun c80 => absurd c80 (nI_ge (by omega) (by omega))) (fun c80 => ?_)
      refine g_aload_n C dX6_makeSmall_83 rfl ?_
      refine g_aload_n C dX6_makeSmall_84 rfl ?_
      refine g_iload C dX6_makeSmall_85 rfl ?_
      refine g_callVt C hts V (i := 42) (gX6_makeSmall_X6_lowerByte) rfl hdX6_lowerByte (by decide) (c_X6_lowerByte hw hR hp hpa hP0 hL hL0 (by omega) eo ho w1 w2 w3) (by rw [hw]; decide) rfl (by decide) rfl rfl (Nat.le_of_ble_eq_true rfl) dX6_makeSmall_87 (fun v M1 J1 R1 h => ?_)
      obtain ⟨h0, hJ, hR1, hL1, hF⟩ := h
      subst h0
      have hJ := Eq.symm hJ
      subst hJ
      have hR1 := Eq.symm hR1
      subst hR1
      try dsimp only at hL1 hF
      show Gj X 0 0 w M1 J R 90 [some (.ref (w.2.1 42)), some (.ref (w.2.1 p)), some (.ref (w.2.1 f)), some (.int x), some (.int (nI k))] []
      refine g_iinc (v := nI (k + 1)) C V.2.1 dX6_makeSmall_90 rfl (nI_succ k).symm (by decide) rfl ?_
      refine g_goto (tgt := 71) C dX6_makeSmall_93 (by decide) ?_
      exact ih (k + 1) M1 _ (by omega) (fun x y h => (hF x y (by omega) (by omega)).trans (hF0 x y h)) ((hF 49 7 (by decide) (by decide)).trans w1) ((hF 49 8 (by decide) (by decide)).trans w2) ((hF 49 10 (by decide) (by decide)).trans w3) (hS0.o (fun x y h1 h2 => hF x y (by omega) (by omega))) hL1
  have out9 : ∀ M0 I0 (x : Int32) z, I0 = SMALL P I → okI I0 → (∀ x y, ¬ (43 ≤ x ∧ x ≤ 58) → M0 x y = M x y) → M0 49 7 = RUN P I 0 7 → M0 49 8 = RUN P I 0 8 → M0 49 10 = RUN P I 0 10 → rowIs M0 43 I0 → Gj X 0 0 w M0 J R 57 [some (.ref (w.2.1 42)), some (.ref (w.2.1 p)), some (.ref (w.2.1 f)), some (.int x), some (.int (nI z))] [] := by
    intro M0 I0 x z hI9 hok hF0 w1 w2 w3 hS0
    subst hI9
    have h24 := hok.1
    refine g_aload_n C dX6_makeSmall_57 rfl ?_
    refine g_getr (j := 45) C F6 (by rw [hw]; decide) rfl (by decide) 1 (by decide) rfl (hts (.fieldLink RX6 20 "FallBench$Trier" "lowest" "LFallBench$Row;") (by decide +kernel)) rfl (hR (42, 1, 45) (by decide)) dX6_makeSmall_58 ?_
    refine g_aload_n C dX6_makeSmall_61 rfl ?_
    refine g_getr (j := 43) C F6 (by rw [hw]; decide) rfl (by decide) 0 (by decide) rfl (hts (.fieldLink RX6 14 "FallBench$Trier" "smallest" "LFallBench$Row;") (by decide +kernel)) rfl (hR (42, 0, 43) (by decide)) dX6_makeSmall_62 ?_
    refine g_callVf C hts V (i := 45) (gX6_makeSmall_X3_copyFrom) rfl hdX3_copyFrom (by decide) (c_X3_copyFrom r45 r43 (by decide) hS0.2.1 h24 hS0.1) (by rw [hw]; decide) rfl (by decide) rfl rfl (Nat.le_of_ble_eq_true rfl) dX6_makeSmall_65 ?_
    refine g_iconst (v := 0) C dX6_makeSmall_68 (by decide) ?_
    refine g_istore C V.2.1 dX6_makeSmall_69 (by decide) rfl ?_
    exact low (SMALL P I).length 0 _ _ (by omega) (fun x y h => by rw [b_cp_o _ (by omega) (by omega)]; exact hF0 x y h) (by rw [b_cp_o _ (by decide) (by decide)]; exact w1) (by rw [b_cp_o _ (by decide) (by decide)]; exact w2) (by rw [b_cp_o _ (by decide) (by decide)]; exact w3) (hS0.o (fun x y h1 h2 => b_cp_o _ (by omega) (by omega))) (row_cp hS0 h24)
  have loop : ∀ dd t M0 I0, t + dd = 25 → okI I0 → (∀ x y, ¬ (43 ≤ x ∧ x ≤ 58) → M0 x y = M x y) → M0 49 7 = RUN P I 0 7 → M0 49 8 = RUN P I 0 8 → M0 49 10 = RUN P I 0 10 → rowIs M0 43 I0 → sAll P (RUN P I 0 7) (RUN P I 0 8) (RUN P I 0 10) dd I0 = SMALL P I → Gj X 0 0 w M0 J R 34 [some (.ref (w.2.1 42)), some (.ref (w.2.1 p)), some (.ref (w.2.1 f)), some (.int 1), some (.int (nI t))] [] := by
    intro dd
    induction dd with
    | zero =>
      intro t M0 I0 ht hok hF0 w1 w2 w3 hS0 hA
      obtain rfl : t = 25 := by omega
      refine g_iload C dX6_makeSmall_34 rfl ?_
      refine g_bipush (v := 24) C dX6_makeSmall_36 (by decide) ?_
      refine g_icmp_gt (tgt := 57) C dX6_makeSmall_38 (by decide) (fun c38 => ?_) (fun c38 => absurd c38 (not_not_intro (by decide)))
      exact out9 M0 I0 _ _ hA hok hF0 w1 w2 w3 hS0
    | succ dd ih =>
      intro t M0 I0 ht hok hF0 w1 w2 w3 hS0 hA
      have hP0 : progIs M0 p P := hP.o (fun x y h1 h2 => hF0 x y (by omega))
      have back : ∀ M1, (∀ x y, ¬ (43 ≤ x ∧ x ≤ 58) → M1 x y = M x y) → M1 49 7 = RUN P I 0 7 → M1 49 8 = RUN P I 0 8 → M1 49 10 = RUN P I 0 10 → rowIs M1 43 (sPass P (RUN P I 0 7) (RUN P I 0 8) (RUN P I 0 10) 24 I0 0 false).1 → okI (sPass P (RUN P I 0 7) (RUN P I 0 8) (RUN P I 0 10) 24 I0 0 false).1 → Gj X 0 0 w M1 J R 34 [some (.ref (w.2.1 42)), some (.ref (w.2.1 p)), some (.ref (w.2.1 f)), some (.int (b2i (sPass P (RUN P I 0 7) (RUN P I 0 8) (RUN P I 0 10) 24 I0 0 false).2)), some (.int (nI (t + 1)))] [] := by
        intro M1 hF1 v1 v2 v3 hS1 hok1
        by_cases hb : (sPass P (RUN P I 0 7) (RUN P I 0 8) (RUN P I 0 10) 24 I0 0 false).2 = true
        · rw [show b2i (sPass P (RUN P I 0 7) (RUN P I 0 8) (RUN P I 0 10) 24 I0 0 false).2 = 1 from if_pos hb]
          exact ih (t + 1) M1 _ (by omega) hok1 hF1 v1 v2 v3 hS1 (by rw [← hA]; simp only [sAll, if_pos hb])
        · have hb0 : b2i (sPass P (RUN P I 0 7) (RUN P I 0 8) (RUN P I 0 10) 24 I0 0 false).2 = 0 := if_neg hb
          have hA2 : (sPass P (RUN P I 0 7) (RUN P I 0 8) (RUN P I 0 10) 24 I0 0 false).1 = SMALL P I := by rw [← hA]; simp only [sAll, if_neg hb]
          refine g_iload C dX6_makeSmall_34 rfl ?_
          refine g_bipush (v := 24) C dX6_makeSmall_36 (by decide) ?_
          refine g_icmp_gt (tgt := 57) C dX6_makeSmall_38 (by decide) (fun c38 => ?_) (fun c38 => ?_)
          · exact out9 M1 _ _ _ hA2 hok1 hF1 v1 v2 v3 hS1
          · refine g_iload_n C dX6_makeSmall_41 rfl ?_
            refine g_if_eq (tgt := 57) C dX6_makeSmall_42 (by decide) (fun c42 => ?_) (fun c42 => absurd c42 (not_not_intro hb0))
            exact out9 M1 _ _ _ hA2 hok1 hF1 v1 v2 v3 hS1
      refine g_iload C dX6_makeSmall_34 rfl ?_
      refine g_bipush (v := 24) C dX6_makeSmall_36 (by decide) ?_
      refine g_icmp_gt (tgt := 57) C dX6_makeSmall_38 (by decide) (fun c38 => absurd c38 (fun y => absurd ((nI_ltI (a := 24) (b := t) (by decide) (by omega)).mp y) (by omega))) (fun c38 => ?_)
      refine g_iload_n C dX6_makeSmall_41 rfl ?_
      refine g_if_eq (tgt := 57) C dX6_makeSmall_42 (by decide) (fun c42 => absurd c42 (by decide)) (fun c42 => ?_)
      refine g_aload_n C dX6_makeSmall_45 rfl ?_
      refine g_aload_n C dX6_makeSmall_46 rfl ?_
      refine g_callVt C hts V (i := 42) (gX6_makeSmall_X6_leaveOutOnce) rfl hdX6_leaveOutOnce (by decide) (c_X6_leaveOutOnce hw hR hp hpa hP0 hL hS0 w1 w2 w3) (by rw [hw]; decide) rfl (by decide) rfl rfl (Nat.le_of_ble_eq_true rfl) dX6_makeSmall_47 (fun v M1 J1 R1 h => ?_)
      obtain ⟨h0, hJ, hR1, hS1, hF⟩ := h
      subst h0
      have hJ := Eq.symm hJ
      subst hJ
      have hR1 := Eq.symm hR1
      subst hR1
      try dsimp only at hS1 hF
      have hF1 : ∀ x y, ¬ (43 ≤ x ∧ x ≤ 58) → M1 x y = M x y := fun x y h => (hF x y (by omega) (by omega)).trans (hF0 x y h)
      have v1 : M1 49 7 = RUN P I 0 7 := (hF 49 7 (by decide) (by decide)).trans w1
      have v2 : M1 49 8 = RUN P I 0 8 := (hF 49 8 (by decide) (by decide)).trans w2
      have v3 : M1 49 10 = RUN P I 0 10 := (hF 49 10 (by decide) (by decide)).trans w3
      have hok1 : okI (sPass P (RUN P I 0 7) (RUN P I 0 8) (RUN P I 0 10) 24 I0 0 false).1 := hok.pass 24 0 false
      show Gj X 0 0 w M1 J R 50 [some (.ref (w.2.1 42)), some (.ref (w.2.1 p)), some (.ref (w.2.1 f)), some (.int 1), some (.int (nI t))] [.int (b2i (sPass P (RUN P I 0 7) (RUN P I 0 8) (RUN P I 0 10) 24 I0 0 false).2)]
      refine g_istore_n C V.2.1 dX6_makeSmall_50 (by decide) rfl ?_
      refine g_iinc (v := nI (t + 1)) C V.2.1 dX6_makeSmall_51 rfl (nI_succ t).symm (by decide) rfl ?_
      refine g_goto (tgt := 34) C dX6_makeSmall_54 (by decide) ?_
      exact back M1 hF1 v1 v2 v3 hS1 hok1
  refine g_aload_n C dX6_makeSmall_0 rfl ?_
  refine g_getr (j := 49) C F6 (by rw [hw]; decide) rfl (by decide) 5 (by decide) rfl (hts (.fieldLink RX6 36 "FallBench$Trier" "asItIs" "LFallBench$Machine;") (by decide +kernel)) rfl (hR (42, 5, 49) (by decide)) dX6_makeSmall_1 ?_
  refine g_aload_n C dX6_makeSmall_4 rfl ?_
  refine g_aload_n C dX6_makeSmall_5 rfl ?_
  refine g_callVf C hts V (i := 49) (gX6_makeSmall_X0_runWhole) rfl hdX0_runWhole (by decide) (c_X0_runWhole m49 hp hf (okP_of hP hL)) (by rw [hw]; decide) rfl (by decide) rfl rfl (Nat.le_of_ble_eq_true rfl) dX6_makeSmall_6 ?_
  refine g_aload_n C dX6_makeSmall_9 rfl ?_
  refine g_getr (j := 49) C F6 (by rw [hw]; decide) rfl (by decide) 5 (by decide) rfl (hts (.fieldLink RX6 36 "FallBench$Trier" "asItIs" "LFallBench$Machine;") (by decide +kernel)) rfl (hR (42, 5, 49) (by decide)) dX6_makeSmall_10 ?_
  refine g_callVf C hts V (i := 49) (gX6_makeSmall_X0_endedAtAct) rfl hdX0_endedAtAct (by decide) (c_X0_endedAtAct m49) (by rw [hw]; decide) rfl (by decide) rfl rfl (Nat.le_of_ble_eq_true rfl) dX6_makeSmall_13 ?_
  refine g_if_ne (tgt := 21) C dX6_makeSmall_16 (by decide) (fun c16 => ?_) (fun c16 => absurd c16 (by rw [if_neg hE9]; decide))
  refine g_aload_n C dX6_makeSmall_21 rfl ?_
  refine g_getr (j := 43) C F6 (by rw [hw]; decide) rfl (by decide) 0 (by decide) rfl (hts (.fieldLink RX6 14 "FallBench$Trier" "smallest" "LFallBench$Row;") (by decide +kernel)) rfl (hR (42, 0, 43) (by decide)) dX6_makeSmall_22 ?_
  refine g_aload_n C dX6_makeSmall_25 rfl ?_
  refine g_callVf C hts V (i := 43) (gX6_makeSmall_X3_copyFrom) rfl hdX3_copyFrom (by decide) (c_X3_copyFrom r43 hf (by omega) hI1.2.1 hl24 hI1.1) (by rw [hw]; decide) rfl (by decide) rfl rfl (Nat.le_of_ble_eq_true rfl) dX6_makeSmall_26 ?_
  refine g_iconst (v := 1) C dX6_makeSmall_29 (by decide) ?_
  refine g_istore_n C V.2.1 dX6_makeSmall_30 (by decide) rfl ?_
  refine g_iconst (v := 0) C dX6_makeSmall_31 (by decide) ?_
  refine g_istore C V.2.1 dX6_makeSmall_32 (by decide) rfl ?_
  exact loop 25 0 _ I (by decide) hB (fun x y h => by rw [b_cp_o _ (by omega) (by omega), m_run_out (by omega)]) (by rw [b_cp_o _ (by decide) (by decide)]; exact hr.1 7 (by decide) (by decide)) (by rw [b_cp_o _ (by decide) (by decide)]; exact hr.1 8 (by decide) (by decide)) (by rw [b_cp_o _ (by decide) (by decide)]; exact hr.1 10 (by decide) (by decide)) hcp rfl
