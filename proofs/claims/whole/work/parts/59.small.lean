/-! SMALL and LOW on lists; the class's leaveOutOnce -/
abbrev okc (P : List act4) (e a m : Int32) (I : List Int32) : Prop := RUN P I 0 7 = e ∧ RUN P I 0 8 = a ∧ RUN P I 0 10 = m
def sPass (P : List act4) (e a m : Int32) : Nat → List Int32 → Nat → Bool → List Int32 × Bool
  | 0, I, _, b => (I, b)
  | f + 1, I, k, b => if k < I.length then (if okc P e a m (I.eraseIdx k) then sPass P e a m f (I.eraseIdx k) k true else sPass P e a m f I (k + 1) b) else (I, b)
theorem len_erase (I : List Int32) {k : Nat} (hk : k < I.length) : (I.eraseIdx k).length = I.length - 1 := by
  rw [List.length_eraseIdx, if_pos hk]
theorem getD_erase (I : List Int32) (k j : Nat) : (I.eraseIdx k).getD j 0 = if j < k then I.getD j 0 else I.getD (j + 1) 0 := by
  simp only [List.getD]
  by_cases h : j < k
  · rw [if_pos h, List.getElem?_eraseIdx_of_lt h]
  · rw [if_neg h, List.getElem?_eraseIdx_of_ge (by omega)]
theorem row_cpo {M : Nat → Nat → Int32} {r q k : Nat} {I : List Int32} (h : rowIs M q I) (hl : I.length ≤ ln (r + 1)) (hk : k < I.length) : rowIs (b_cpo M r q k I.length) r (I.eraseIdx k) := by
  have hle := len_erase I hk
  refine ⟨by omega, ?_, fun j hj => ?_⟩
  · simp only [b_cpo]; rw [if_pos ⟨trivial, trivial⟩, if_pos hk, hle]
  · rw [hle] at hj
    simp only [b_cpo]
    rw [if_neg (by omega), if_pos ⟨trivial, by rw [if_pos hk]; exact hj⟩, getD_erase]
    by_cases c : j < k
    · rw [if_pos c, if_pos c]; exact h.2.2 j (by omega)
    · rw [if_neg c, if_neg c]; exact h.2.2 (j + 1) (by omega)
theorem b_cpo_o (M : Nat → Nat → Int32) {r q o n a b : Nat} (h : a ≠ r) (h2 : a ≠ r + 1) : b_cpo M r q o n a b = M a b := by
  simp only [b_cpo]; rw [if_neg (fun z => h z.1), if_neg (fun z => h2 z.1)]
/-- a pass leaves the length as it is, or makes it less when any went out -/
theorem sPass_len (P : List act4) (e a m : Int32) : ∀ f I k b, (sPass P e a m f I k b).1.length ≤ I.length ∧ ((sPass P e a m f I k b).2 = true → b = true ∨ (sPass P e a m f I k b).1.length < I.length) := by
  intro f
  induction f with
  | zero => intro I k b; exact ⟨Nat.le_refl _, fun h => Or.inl h⟩
  | succ f ih =>
    intro I k b
    simp only [sPass]
    by_cases c : k < I.length
    · rw [if_pos c]
      by_cases d : okc P e a m (I.eraseIdx k)
      · rw [if_pos d]
        obtain ⟨h1, -⟩ := ih (I.eraseIdx k) k true
        have := len_erase I c
        exact ⟨by omega, fun _ => Or.inr (by omega)⟩
      · rw [if_neg d]; exact ih I (k + 1) b
    · rw [if_neg c]; exact ⟨Nat.le_refl _, fun h => Or.inl h⟩
def wF (M M' : Nat → Nat → Int32) : Prop := ∀ x y, ¬ (43 ≤ x ∧ x ≤ 48) → ¬ (54 ≤ x ∧ x ≤ 58) → M' x y = M x y
def b2i (b : Bool) : Int32 := if b = true then 1 else 0

set_option maxHeartbeats 4000000 in
set_option maxRecDepth 100000 in
theorem c_X6_leaveOutOnce {l : Launch} {D : va_G} {w : gw} {M : Nat → Nat → Int32} {J : Nat → Nat → Int64} {R : Nat → Nat → Option Nat} (hw : w.1 = 166) (hR : LayC R) {p : Nat} {P : List act4} {I : List Int32} {e a m : Int32} (hp : isProg w R p) (hpa : p + 4 < 25 ∨ 58 < p) (hP : progIs M p P) (hL : okL P) (hI : rowIs M 43 I) (he : M 49 7 = e) (hae : M 49 8 = a) (hme : M 49 10 = m) : Ct l yX6_leaveOutOnce wsX6_leaveOutOnce ({ frames := 4, cells := 0, slots := 0, locals := 97 } : Room) D w [.ref (w.2.1 42), .ref (w.2.1 p)] (M, J, R) (fun v u => v = some (.int (b2i (sPass P e a m 24 I 0 false).2)) ∧ u.2.1 = J ∧ u.2.2 = R ∧ rowIs u.1 43 (sPass P e a m 24 I 0 false).1 ∧ wF M u.1) := by
  obtain ⟨p_hi4, p_k, p_k1, p_k2, p_k3, p_k4, p_l1, p_l2, p_l3, p_l4, p_r0, p_r1, p_r2, p_r3⟩ := id hp
  have p_hi : p < w.1 := by omega
  have p_hi1 : p + 1 < w.1 := by omega
  have p_hi2 : p + 2 < w.1 := by omega
  have p_hi3 : p + 3 < w.1 := by omega
  have r43 := row_43 hw hR
  have r47 := row_47 hw hR
  have m49 := mach_49 hw hR
  have m54 := mach_54 hw hR
  refine Cg.of (own := RX6) (cc := cX6_leaveOutOnce) (maxL := 5) (ret := (some .boolean)) 3 (by decide) rfl rfl (Nat.le_of_ble_eq_true rfl) (fun X C hts V Rr => ?_)
  have F6 : FW X 6 := fun q h => hts q (List.mem_cons_of_mem _ (List.mem_append_left _ (List.mem_append_left _ (List.mem_append_left _ (List.mem_append_right _ h)))))
  have F3 : FW X 3 := fun q h => hts q (List.mem_cons_of_mem _ (List.mem_append_left _ (List.mem_append_left _ (List.mem_append_right _ h))))
  have F0 : FW X 0 := fun q h => hts q (List.mem_cons_of_mem _ (List.mem_append_left _ (List.mem_append_right _ h)))
  have F2 : FW X 2 := fun q h => hts q (List.mem_cons_of_mem _ (List.mem_append_right _ h))
  show Gj X 0 0 w M J R 0 [some (.ref (w.2.1 42)), some (.ref (w.2.1 p)), none, none, none] []
  have loop : ∀ f t k b I0 M0, t + f = 24 → k ≤ 24 → wF M M0 → rowIs M0 43 I0 → sPass P e a m f I0 k b = sPass P e a m 24 I 0 false → Gj X 0 0 w M0 J R 7 [some (.ref (w.2.1 42)), some (.ref (w.2.1 p)), some (.int (b2i b)), some (.int (nI k)), some (.int (nI t))] [] := by
    intro f
    induction f with
    | zero =>
      intro t k b I0 M0 ht hk hF0 hI0 hE
      obtain rfl : t = 24 := by omega
      refine g_iload C dX6_leaveOutOnce_7 rfl ?_
      refine g_bipush (v := 24) C dX6_leaveOutOnce_9 (by decide) ?_
      refine g_icmp_ge (tgt := 88) C dX6_leaveOutOnce_11 (by decide) (fun c11 => ?_) (fun c11 => absurd c11 (not_not_intro (by decide)))
      refine g_iload_n C dX6_leaveOutOnce_88 rfl ?_
      exact g_zret C Rr (by rcases b with _ | _ <;> rfl) ⟨rfl, ⟨by rw [← hE]; rfl, rfl, rfl, by rw [← hE]; exact hI0, hF0⟩⟩ dX6_leaveOutOnce_89
    | succ f ih =>
      intro t k b I0 M0 ht hk hF0 hI0 hE
      have hl0 : I0.length ≤ 24 := hI0.1
      refine g_iload C dX6_leaveOutOnce_7 rfl ?_
      refine g_bipush (v := 24) C dX6_leaveOutOnce_9 (by decide) ?_
      refine g_icmp_ge (tgt := 88) C dX6_leaveOutOnce_11 (by decide) (fun c11 => absurd c11 (fun y => absurd ((nI_leI (a := 24) (b := t) (by decide) (by omega)).mp y) (by omega))) (fun c11 => ?_)
      refine g_iload_n C dX6_leaveOutOnce_14 rfl ?_
      refine g_aload_n C dX6_leaveOutOnce_15 rfl ?_
      refine g_getr (j := 43) C F6 (by rw [hw]; decide) rfl (by decide) 0 (by decide) rfl (hts (.fieldLink RX6 14 "FallBench$Trier" "smallest" "LFallBench$Row;") (by decide +kernel)) rfl (hR (42, 0, 43) (by decide)) dX6_leaveOutOnce_16 ?_
      refine g_geti (v := nI I0.length) C F3 (by rw [hw]; decide) rfl (by decide) 1 (by decide) rfl (hts (.fieldLink RX6 59 "FallBench$Row" "length" "I") (by decide +kernel)) rfl hI0.2.1 dX6_leaveOutOnce_19 ?_
      refine g_icmp_ge (tgt := 88) C dX6_leaveOutOnce_22 (by decide) (fun c22 => ?_) (fun c22 => ?_)
      · refine g_iload_n C dX6_leaveOutOnce_88 rfl ?_
        exact g_zret C Rr (by rcases b with _ | _ <;> rfl) ⟨rfl, ⟨by rw [← hE]; simp only [sPass]; rw [if_neg (fun y => absurd c22 (nI_ge y (by omega)))], rfl, rfl, by rw [← hE]; simp only [sPass]; rw [if_neg (fun y => absurd c22 (nI_ge y (by omega)))]; exact hI0, hF0⟩⟩ dX6_leaveOutOnce_89
      · have hkl : k < I0.length := (nI_ltI (by omega) (by omega)).mp (lt_of_nle c22)
        have hI1 : rowIs (b_cpo M0 47 43 k I0.length) 47 (I0.eraseIdx k) := row_cpo hI0 (show I0.length ≤ 24 from hl0) hkl
        have hP1 : progIs (b_cpo M0 47 43 k I0.length) p P := (hP.o (M' := M0) (fun x y h1 h2 => hF0 x y (by omega) (by omega))).o (fun x y h1 h2 => b_cpo_o _ (by omega) (by omega))
        have hr := run_is m54 hp r47 hP1 hI1 hL
        have hF2 : ∀ x y, x ≠ 47 → x ≠ 48 → ¬ (54 ≤ x ∧ x ≤ 58) → (m_run (b_cpo M0 47 43 k I0.length) 54 p 47) x y = M0 x y := fun x y h1 h2 h3 => by rw [m_run_out (by omega), b_cpo_o _ h1 h2]
        have hR2 : rowIs (m_run (b_cpo M0 47 43 k I0.length) 54 p 47) 47 (I0.eraseIdx k) := hI1.o (fun x y h1 h2 => m_run_out (by omega))
        have hI2 : rowIs (m_run (b_cpo M0 47 43 k I0.length) 54 p 47) 43 I0 := hI0.o (fun x y h1 h2 => hF2 x y (by omega) (by omega) (by omega))
        have g7 : (m_run (b_cpo M0 47 43 k I0.length) 54 p 47) 54 7 = RUN P (I0.eraseIdx k) 0 7 := hr.1 7 (by decide) (by decide)
        have g8 : (m_run (b_cpo M0 47 43 k I0.length) 54 p 47) 54 8 = RUN P (I0.eraseIdx k) 0 8 := hr.1 8 (by decide) (by decide)
        have g10 : (m_run (b_cpo M0 47 43 k I0.length) 54 p 47) 54 10 = RUN P (I0.eraseIdx k) 0 10 := hr.1 10 (by decide) (by decide)
        have h7 : (m_run (b_cpo M0 47 43 k I0.length) 54 p 47) 49 7 = e := by rw [hF2 49 7 (by decide) (by decide) (by omega), hF0 49 7 (by omega) (by omega)]; exact he
        have h8 : (m_run (b_cpo M0 47 43 k I0.length) 54 p 47) 49 8 = a := by rw [hF2 49 8 (by decide) (by decide) (by omega), hF0 49 8 (by omega) (by omega)]; exact hae
        have h10 : (m_run (b_cpo M0 47 43 k I0.length) 54 p 47) 49 10 = m := by rw [hF2 49 10 (by decide) (by decide) (by omega), hF0 49 10 (by omega) (by omega)]; exact hme
        have hcs : (if (m_run (b_cpo M0 47 43 k I0.length) 54 p 47) 54 7 = (m_run (b_cpo M0 47 43 k I0.length) 54 p 47) 49 7 then (if (m_run (b_cpo M0 47 43 k I0.length) 54 p 47) 54 8 = (m_run (b_cpo M0 47 43 k I0.length) 54 p 47) 49 8 then (if (m_run (b_cpo M0 47 43 k I0.length) 54 p 47) 54 10 = (m_run (b_cpo M0 47 43 k I0.length) 54 p 47) 49 10 then (1 : Int32) else 0) else 0) else 0) = if okc P e a m (I0.eraseIdx k) then 1 else 0 := by
          rw [g7, g8, g10, h7, h8, h10]
          by_cases y1 : RUN P (I0.eraseIdx k) 0 7 = e
          · by_cases y2 : RUN P (I0.eraseIdx k) 0 8 = a
            · by_cases y3 : RUN P (I0.eraseIdx k) 0 10 = m
              · rw [if_pos y1, if_pos y2, if_pos y3, if_pos ⟨y1, y2, y3⟩]
              · rw [if_pos y1, if_pos y2, if_neg y3, if_neg (fun z => y3 z.2.2)]
            · rw [if_pos y1, if_neg y2, if_neg (fun z => y2 z.2.1)]
          · rw [if_neg y1, if_neg (fun z => y1 z.1)]
        refine g_aload_n C dX6_leaveOutOnce_25 rfl ?_
        refine g_getr (j := 47) C F6 (by rw [hw]; decide) rfl (by decide) 4 (by decide) rfl (hts (.fieldLink RX6 30 "FallBench$Trier" "changed" "LFallBench$Row;") (by decide +kernel)) rfl (hR (42, 4, 47) (by decide)) dX6_leaveOutOnce_26 ?_
        refine g_aload_n C dX6_leaveOutOnce_29 rfl ?_
        refine g_getr (j := 43) C F6 (by rw [hw]; decide) rfl (by decide) 0 (by decide) rfl (hts (.fieldLink RX6 14 "FallBench$Trier" "smallest" "LFallBench$Row;") (by decide +kernel)) rfl (hR (42, 0, 43) (by decide)) dX6_leaveOutOnce_30 ?_
        refine g_iload_n C dX6_leaveOutOnce_33 rfl ?_
        refine g_callVf C hts V (i := 47) (gX6_leaveOutOnce_X3_copyWithout) rfl hdX3_copyWithout (by decide) (c_X3_copyWithout r47 r43 (by decide) hI0.2.1 (show I0.length ≤ 24 from hl0) hI0.1 (by omega)) (by rw [hw]; decide) rfl (by decide) rfl rfl (Nat.le_of_ble_eq_true rfl) dX6_leaveOutOnce_34 ?_
        refine g_aload_n C dX6_leaveOutOnce_37 rfl ?_
        refine g_getr (j := 54) C F6 (by rw [hw]; decide) rfl (by decide) 6 (by decide) rfl (hts (.fieldLink RX6 40 "FallBench$Trier" "trial" "LFallBench$Machine;") (by decide +kernel)) rfl (hR (42, 6, 54) (by decide)) dX6_leaveOutOnce_38 ?_
        refine g_aload_n C dX6_leaveOutOnce_41 rfl ?_
        refine g_aload_n C dX6_leaveOutOnce_42 rfl ?_
        refine g_getr (j := 47) C F6 (by rw [hw]; decide) rfl (by decide) 4 (by decide) rfl (hts (.fieldLink RX6 30 "FallBench$Trier" "changed" "LFallBench$Row;") (by decide +kernel)) rfl (hR (42, 4, 47) (by decide)) dX6_leaveOutOnce_43 ?_
        refine g_callVf C hts V (i := 54) (gX6_leaveOutOnce_X0_runWhole) rfl hdX0_runWhole (by decide) (c_X0_runWhole m54 hp r47 (okP_of hP1 hL)) (by rw [hw]; decide) rfl (by decide) rfl rfl (Nat.le_of_ble_eq_true rfl) dX6_leaveOutOnce_46 ?_
        refine g_aload_n C dX6_leaveOutOnce_49 rfl ?_
        refine g_getr (j := 54) C F6 (by rw [hw]; decide) rfl (by decide) 6 (by decide) rfl (hts (.fieldLink RX6 40 "FallBench$Trier" "trial" "LFallBench$Machine;") (by decide +kernel)) rfl (hR (42, 6, 54) (by decide)) dX6_leaveOutOnce_50 ?_
        refine g_aload_n C dX6_leaveOutOnce_53 rfl ?_
        refine g_getr (j := 49) C F6 (by rw [hw]; decide) rfl (by decide) 5 (by decide) rfl (hts (.fieldLink RX6 36 "FallBench$Trier" "asItIs" "LFallBench$Machine;") (by decide +kernel)) rfl (hR (42, 5, 49) (by decide)) dX6_leaveOutOnce_54 ?_
        refine g_callVf C hts V (i := 54) (gX6_leaveOutOnce_X0_hasCauseOf) rfl hdX0_hasCauseOf (by decide) (Cf.to (c_X0_hasCauseOf m54 m49) (congrArg (fun z => some (Value.int z)) hcs) rfl) (by rw [hw]; decide) rfl (by decide) rfl rfl (Nat.le_of_ble_eq_true rfl) dX6_leaveOutOnce_57 ?_
        refine g_if_eq (tgt := 79) C dX6_leaveOutOnce_60 (by decide) (fun c60 => ?_) (fun c60 => ?_)
        · refine g_iinc (v := nI (k + 1)) C V.2.1 dX6_leaveOutOnce_79 rfl (nI_succ k).symm (by decide) rfl ?_
          refine g_iinc (v := nI (t + 1)) C V.2.1 dX6_leaveOutOnce_82 rfl (nI_succ t).symm (by decide) rfl ?_
          refine g_goto (tgt := 7) C dX6_leaveOutOnce_85 (by decide) ?_
          have hok : ¬ okc P e a m (I0.eraseIdx k) := fun y => by rw [if_pos y] at c60; exact absurd c60 (by decide)
          exact ih (t + 1) (k + 1) b I0 _ (by omega) (by omega) (fun x y h1 h2 => by rw [hF2 x y (by omega) (by omega) (by omega)]; exact hF0 x y h1 h2) hI2 (by rw [← hE]; simp only [sPass, if_pos hkl, if_neg hok])
        · refine g_aload_n C dX6_leaveOutOnce_63 rfl ?_
          refine g_getr (j := 43) C F6 (by rw [hw]; decide) rfl (by decide) 0 (by decide) rfl (hts (.fieldLink RX6 14 "FallBench$Trier" "smallest" "LFallBench$Row;") (by decide +kernel)) rfl (hR (42, 0, 43) (by decide)) dX6_leaveOutOnce_64 ?_
          refine g_aload_n C dX6_leaveOutOnce_67 rfl ?_
          refine g_getr (j := 47) C F6 (by rw [hw]; decide) rfl (by decide) 4 (by decide) rfl (hts (.fieldLink RX6 30 "FallBench$Trier" "changed" "LFallBench$Row;") (by decide +kernel)) rfl (hR (42, 4, 47) (by decide)) dX6_leaveOutOnce_68 ?_
          refine g_callVf C hts V (i := 43) (gX6_leaveOutOnce_X3_copyFrom) rfl hdX3_copyFrom (by decide) (c_X3_copyFrom r43 r47 (by decide) hR2.2.1 (show (I0.eraseIdx k).length ≤ 24 by rw [len_erase I0 hkl]; omega) hR2.1) (by rw [hw]; decide) rfl (by decide) rfl rfl (Nat.le_of_ble_eq_true rfl) dX6_leaveOutOnce_71 ?_
          refine g_iconst (v := 1) C dX6_leaveOutOnce_74 (by decide) ?_
          refine g_istore_n C V.2.1 dX6_leaveOutOnce_75 (by decide) rfl ?_
          refine g_goto (tgt := 82) C dX6_leaveOutOnce_76 (by decide) ?_
          refine g_iinc (v := nI (t + 1)) C V.2.1 dX6_leaveOutOnce_82 rfl (nI_succ t).symm (by decide) rfl ?_
          refine g_goto (tgt := 7) C dX6_leaveOutOnce_85 (by decide) ?_
          have hok : okc P e a m (I0.eraseIdx k) := Classical.byContradiction (fun y => c60 (if_neg y))
          exact ih (t + 1) k true _ _ (by omega) hk (fun x y h1 h2 => by rw [b_cp_o _ (by omega) (by omega), hF2 x y (by omega) (by omega) (by omega)]; exact hF0 x y h1 h2) (row_cp hR2 (show (I0.eraseIdx k).length ≤ 24 by rw [len_erase I0 hkl]; omega)) (by rw [← hE]; simp only [sPass, if_pos hkl, if_pos hok])
  refine g_iconst (v := 0) C dX6_leaveOutOnce_0 (by decide) ?_
  refine g_istore_n C V.2.1 dX6_leaveOutOnce_1 (by decide) rfl ?_
  refine g_iconst (v := 0) C dX6_leaveOutOnce_2 (by decide) ?_
  refine g_istore_n C V.2.1 dX6_leaveOutOnce_3 (by decide) rfl ?_
  refine g_iconst (v := 0) C dX6_leaveOutOnce_4 (by decide) ?_
  refine g_istore C V.2.1 dX6_leaveOutOnce_5 (by decide) rfl ?_
  exact loop 24 0 0 false I M (by decide) (by decide) (fun _ _ _ _ => rfl) hI rfl

/-- the least value below the byte's own with which the cause is the same; else its own -/
def lowV (P : List act4) (e a m : Int32) (I : List Int32) (k : Nat) : Int32 := match hfd (fun v => okc P e a m (I.set k (nI v))) (I.getD k 0).toNatClampNeg with
  | some v => nI v
  | none => I.getD k 0
def lF (M M' : Nat → Nat → Int32) : Prop := ∀ x y, ¬ x = 46 → ¬ (54 ≤ x ∧ x ≤ 58) → M' x y = M x y

set_option maxHeartbeats 4000000 in
set_option maxRecDepth 100000 in
theorem c_X6_lowerByte {l : Launch} {D : va_G} {w : gw} {M : Nat → Nat → Int32} {J : Nat → Nat → Int64} {R : Nat → Nat → Option Nat} (hw : w.1 = 166) (hR : LayC R) {p k o : Nat} {P : List act4} {I : List Int32} {e a m : Int32} (hp : isProg w R p) (hpa : p + 4 < 25 ∨ 58 < p) (hP : progIs M p P) (hL : okL P) (hI : rowIs M 45 I) (hk : k < I.length) (ho : I.getD k 0 = nI o) (ho2 : o < 256) (he : M 49 7 = e) (hae : M 49 8 = a) (hme : M 49 10 = m) : Ct l yX6_lowerByte wsX6_lowerByte ({ frames := 4, cells := 0, slots := 0, locals := 97 } : Room) D w [.ref (w.2.1 42), .ref (w.2.1 p), .int (nI k)] (M, J, R) (fun v u => v = none ∧ u.2.1 = J ∧ u.2.2 = R ∧ rowIs u.1 45 (I.set k (lowV P e a m I k)) ∧ lF M u.1) := by
  obtain ⟨p_hi4, p_k, p_k1, p_k2, p_k3, p_k4, p_l1, p_l2, p_l3, p_l4, p_r0, p_r1, p_r2, p_r3⟩ := id hp
  have p_hi : p < w.1 := by omega
  have p_hi1 : p + 1 < w.1 := by omega
  have p_hi2 : p + 2 < w.1 := by omega
  have p_hi3 : p + 3 < w.1 := by omega
  have r45 := row_45 hw hR
  have m49 := mach_49 hw hR
  have m54 := mach_54 hw hR
  have hl24 : I.length ≤ 24 := hI.1
  refine Cg.of (own := RX6) (cc := cX6_lowerByte) (maxL := 5) (ret := none) 2 (by decide) rfl rfl (Nat.le_of_ble_eq_true rfl) (fun X C hts V Rr => ?_)
  have F6 : FW X 6 := fun q h => hts q (List.mem_cons_of_mem _ (List.mem_append_left _ (List.mem_append_left _ (List.mem_append_left _ (List.mem_append_right _ h)))))
  have F3 : FW X 3 := fun q h => hts q (List.mem_cons_of_mem _ (List.mem_append_left _ (List.mem_append_left _ (List.mem_append_right _ h))))
  have F0 : FW X 0 := fun q h => hts q (List.mem_cons_of_mem _ (List.mem_append_left _ (List.mem_append_right _ h)))
  have F2 : FW X 2 := fun q h => hts q (List.mem_cons_of_mem _ (List.mem_append_right _ h))
  show Gj X 0 0 w M J R 0 [some (.ref (w.2.1 42)), some (.ref (w.2.1 p)), some (.int (nI k)), none, none] []
  have loop : ∀ dd v M0 I0, v + dd = o → lF M M0 → rowIs M0 45 I0 → eqx I0 I k → hfd (fun v => okc P e a m (I.set k (nI v))) v = none → Gj X 0 0 w M0 J R 12 [some (.ref (w.2.1 42)), some (.ref (w.2.1 p)), some (.int (nI k)), some (.int (nI o)), some (.int (nI v))] [] := by
    intro dd
    induction dd with
    | zero =>
      intro v M0 I0 hv hF0 hI0 hx hno
      obtain rfl : v = o := by omega
      have hk0 : k < I0.length := by rw [hx.1]; omega
      refine g_iload C dX6_lowerByte_12 rfl ?_
      refine g_iload_n C dX6_lowerByte_14 rfl ?_
      refine g_icmp_ge (tgt := 61) C dX6_lowerByte_15 (by decide) (fun c15 => ?_) (fun c15 => absurd c15 (not_not_intro (nI_le (Nat.le_refl _) (by omega))))
      refine g_aload_n C dX6_lowerByte_61 rfl ?_
      refine g_getr (j := 45) C F6 (by rw [hw]; decide) rfl (by decide) 1 (by decide) rfl (hts (.fieldLink RX6 20 "FallBench$Trier" "lowest" "LFallBench$Row;") (by decide +kernel)) rfl (hR (42, 1, 45) (by decide)) dX6_lowerByte_62 ?_
      refine g_iload_n C dX6_lowerByte_65 rfl ?_
      refine g_iload_n C dX6_lowerByte_66 rfl ?_
      refine g_callVf C hts V (i := 45) (gX6_lowerByte_X3_setByte) rfl hdX3_setByte (by decide) (Cf.to (c_X3_setByte r45) rfl (b_set_n hI0 hk0 _)) (by rw [hw]; decide) rfl (by decide) rfl rfl (Nat.le_of_ble_eq_true rfl) dX6_lowerByte_67 ?_
      exact g_vret C Rr ⟨rfl, ⟨rfl, rfl, rfl, by have q := hI0.set hk0 (nI v); rw [hx.2] at q; rw [lowV, ho, nI_clamp (by omega), hno]; exact q, fun x y h1 h2 => by show up2 M0 46 k (nI v) x y = M x y; rw [up2_n1 _ _ h1]; exact hF0 x y h1 h2⟩⟩ dX6_lowerByte_70
    | succ dd ih =>
      intro v M0 I0 hv hF0 hI0 hx hno
      have hk0 : k < I0.length := by rw [hx.1]; omega
      have hI1 := hI0.set hk0 (nI v)
      rw [hx.2] at hI1
      have hP1 : progIs (up2 M0 46 k (nI v)) p P := (hP.o (M' := M0) (fun x y h1 h2 => hF0 x y (by omega) (by omega))).o (fun x y h1 h2 => up2_n1 _ _ (by omega))
      have hr := run_is m54 hp r45 hP1 hI1 hL
      have hF2 : ∀ x y, x ≠ 46 → ¬ (54 ≤ x ∧ x ≤ 58) → (m_run (up2 M0 46 k (nI v)) 54 p 45) x y = M x y := fun x y h1 h3 => by rw [m_run_out (by omega), up2_n1 _ _ h1]; exact hF0 x y h1 h3
      have hR2 : rowIs (m_run (up2 M0 46 k (nI v)) 54 p 45) 45 (I.set k (nI v)) := hI1.o (fun x y h1 h2 => m_run_out (by omega))
      have g7 : (m_run (up2 M0 46 k (nI v)) 54 p 45) 54 7 = RUN P (I.set k (nI v)) 0 7 := hr.1 7 (by decide) (by decide)
      have g8 : (m_run (up2 M0 46 k (nI v)) 54 p 45) 54 8 = RUN P (I.set k (nI v)) 0 8 := hr.1 8 (by decide) (by decide)
      have g10 : (m_run (up2 M0 46 k (nI v)) 54 p 45) 54 10 = RUN P (I.set k (nI v)) 0 10 := hr.1 10 (by decide) (by decide)
      have h7 : (m_run (up2 M0 46 k (nI v)) 54 p 45) 49 7 = e := (hF2 49 7 (by decide) (by omega)).trans he
      have h8 : (m_run (up2 M0 46 k (nI v)) 54 p 45) 49 8 = a := (hF2 49 8 (by decide) (by omega)).trans hae
      have h10 : (m_run (up2 M0 46 k (nI v)) 54 p 45) 49 10 = m := (hF2 49 10 (by decide) (by omega)).trans hme
      have hcs : (if (m_run (up2 M0 46 k (nI v)) 54 p 45) 54 7 = (m_run (up2 M0 46 k (nI v)) 54 p 45) 49 7 then (if (m_run (up2 M0 46 k (nI v)) 54 p 45) 54 8 = (m_run (up2 M0 46 k (nI v)) 54 p 45) 49 8 then (if (m_run (up2 M0 46 k (nI v)) 54 p 45) 54 10 = (m_run (up2 M0 46 k (nI v)) 54 p 45) 49 10 then (1 : Int32) else 0) else 0) else 0) = if okc P e a m (I.set k (nI v)) then 1 else 0 := by
        rw [g7, g8, g10, h7, h8, h10]
        by_cases y1 : RUN P (I.set k (nI v)) 0 7 = e
        · by_cases y2 : RUN P (I.set k (nI v)) 0 8 = a
          · by_cases y3 : RUN P (I.set k (nI v)) 0 10 = m
            · rw [if_pos y1, if_pos y2, if_pos y3, if_pos ⟨y1, y2, y3⟩]
            · rw [if_pos y1, if_pos y2, if_neg y3, if_neg (fun z => y3 z.2.2)]
          · rw [if_pos y1, if_neg y2, if_neg (fun z => y2 z.2.1)]
        · rw [if_neg y1, if_neg (fun z => y1 z.1)]
      refine g_iload C dX6_lowerByte_12 rfl ?_
      refine g_iload_n C dX6_lowerByte_14 rfl ?_
      refine g_icmp_ge (tgt := 61) C dX6_lowerByte_15 (by decide) (fun c15 => absurd c15 (nI_ge (by omega) (by omega))) (fun c15 => ?_)
      refine g_aload_n C dX6_lowerByte_18 rfl ?_
      refine g_getr (j := 45) C F6 (by rw [hw]; decide) rfl (by decide) 1 (by decide) rfl (hts (.fieldLink RX6 20 "FallBench$Trier" "lowest" "LFallBench$Row;") (by decide +kernel)) rfl (hR (42, 1, 45) (by decide)) dX6_lowerByte_19 ?_
      refine g_iload_n C dX6_lowerByte_22 rfl ?_
      refine g_iload C dX6_lowerByte_23 rfl ?_
      refine g_callVf C hts V (i := 45) (gX6_lowerByte_X3_setByte) rfl hdX3_setByte (by decide) (Cf.to (c_X3_setByte r45) rfl (b_set_n hI0 hk0 _)) (by rw [hw]; decide) rfl (by decide) rfl rfl (Nat.le_of_ble_eq_true rfl) dX6_lowerByte_25 ?_
      refine g_aload_n C dX6_lowerByte_28 rfl ?_
      refine g_getr (j := 54) C F6 (by rw [hw]; decide) rfl (by decide) 6 (by decide) rfl (hts (.fieldLink RX6 40 "FallBench$Trier" "trial" "LFallBench$Machine;") (by decide +kernel)) rfl (hR (42, 6, 54) (by decide)) dX6_lowerByte_29 ?_
      refine g_aload_n C dX6_lowerByte_32 rfl ?_
      refine g_aload_n C dX6_lowerByte_33 rfl ?_
      refine g_getr (j := 45) C F6 (by rw [hw]; decide) rfl (by decide) 1 (by decide) rfl (hts (.fieldLink RX6 20 "FallBench$Trier" "lowest" "LFallBench$Row;") (by decide +kernel)) rfl (hR (42, 1, 45) (by decide)) dX6_lowerByte_34 ?_
      refine g_callVf C hts V (i := 54) (gX6_lowerByte_X0_runWhole) rfl hdX0_runWhole (by decide) (c_X0_runWhole m54 hp r45 (okP_of hP1 hL)) (by rw [hw]; decide) rfl (by decide) rfl rfl (Nat.le_of_ble_eq_true rfl) dX6_lowerByte_37 ?_
      refine g_aload_n C dX6_lowerByte_40 rfl ?_
      refine g_getr (j := 54) C F6 (by rw [hw]; decide) rfl (by decide) 6 (by decide) rfl (hts (.fieldLink RX6 40 "FallBench$Trier" "trial" "LFallBench$Machine;") (by decide +kernel)) rfl (hR (42, 6, 54) (by decide)) dX6_lowerByte_41 ?_
      refine g_aload_n C dX6_lowerByte_44 rfl ?_
      refine g_getr (j := 49) C F6 (by rw [hw]; decide) rfl (by decide) 5 (by decide) rfl (hts (.fieldLink RX6 36 "FallBench$Trier" "asItIs" "LFallBench$Machine;") (by decide +kernel)) rfl (hR (42, 5, 49) (by decide)) dX6_lowerByte_45 ?_
      refine g_callVf C hts V (i := 54) (gX6_lowerByte_X0_hasCauseOf) rfl hdX0_hasCauseOf (by decide) (Cf.to (c_X0_hasCauseOf m54 m49) (congrArg (fun z => some (Value.int z)) hcs) rfl) (by rw [hw]; decide) rfl (by decide) rfl rfl (Nat.le_of_ble_eq_true rfl) dX6_lowerByte_48 ?_
      refine g_if_eq (tgt := 55) C dX6_lowerByte_51 (by decide) (fun c51 => ?_) (fun c51 => ?_)
      · refine g_iinc (v := nI (v + 1)) C V.2.1 dX6_lowerByte_55 rfl (nI_succ v).symm (by decide) rfl ?_
        refine g_goto (tgt := 12) C dX6_lowerByte_58 (by decide) ?_
        have hok : ¬ okc P e a m (I.set k (nI v)) := fun y => by rw [if_pos y] at c51; exact absurd c51 (by decide)
        exact ih (v + 1) _ _ (by omega) hF2 hR2 ((eqx.rf I k).set _) (by rw [hfd_s hno, if_neg hok])
      · have hok : okc P e a m (I.set k (nI v)) := Classical.byContradiction (fun y => c51 (if_neg y))
        exact g_vret C Rr ⟨rfl, ⟨rfl, rfl, rfl, by rw [lowV, ho, nI_clamp (by omega), hfd_up (n := v + 1) (h := v) (by rw [hfd_s hno, if_pos hok]) o (by omega)]; exact hR2, hF2⟩⟩ dX6_lowerByte_54
  refine g_aload_n C dX6_lowerByte_0 rfl ?_
  refine g_getr (j := 45) C F6 (by rw [hw]; decide) rfl (by decide) 1 (by decide) rfl (hts (.fieldLink RX6 20 "FallBench$Trier" "lowest" "LFallBench$Row;") (by decide +kernel)) rfl (hR (42, 1, 45) (by decide)) dX6_lowerByte_1 ?_
  refine g_iload_n C dX6_lowerByte_4 rfl ?_
  refine g_callVf C hts V (i := 45) (gX6_lowerByte_X3_byteAt) rfl hdX3_byteAt (by decide) (Cf.to (c_X3_byteAt r45) (congrArg (fun z => some (Value.int z)) (show b_at M 45 (nI k) = nI o by rw [hI.at, inAt_lt hl24 hk, ho])) rfl) (by rw [hw]; decide) rfl (by decide) rfl rfl (Nat.le_of_ble_eq_true rfl) dX6_lowerByte_5 ?_
  refine g_istore_n C V.2.1 dX6_lowerByte_8 (by decide) rfl ?_
  refine g_iconst (v := 0) C dX6_lowerByte_9 (by decide) ?_
  refine g_istore C V.2.1 dX6_lowerByte_10 (by decide) rfl ?_
  exact loop o 0 M I (by omega) (fun _ _ _ _ => rfl) hI (eqx.rf I k) rfl
