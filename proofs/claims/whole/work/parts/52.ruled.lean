/-! the class: rulingBytes, findNearest -/
set_option maxHeartbeats 4000000 in
set_option maxRecDepth 100000 in
theorem c_X6_rulingBytes {l : Launch} {D : va_G} {w : gw} {M : Nat → Nat → Int32} {J : Nat → Nat → Int64} {R : Nat → Nat → Option Nat} (hw : w.1 = 166) (hR : LayC R) {p f : Nat} {P : List act4} {I : List Int32} (hp : isProg w R p) (hpa : p + 4 < 25 ∨ 58 < p) (hf : isRow w R f) (hfa : 58 < f) (hP : progIs M p P) (hL : okL P) (hI : rowIs M f I) (hB : okI I) : Ct l yX6_rulingBytes wsX6_rulingBytes ({ frames := 5, cells := 0, slots := 0, locals := 120 } : Room) D w [.ref (w.2.1 42), .ref (w.2.1 p), .ref (w.2.1 f)] (M, J, R) (fun v u => v = some (.int (if RUN P I 0 8 = -1 then 0 else rbits (fun k => (hfd (rlB P (RUN P I 0 7) (RUN P I 0 8) (RUN P I 0 9) I k) 256).isSome) (RUN P I 0 5).toNatClampNeg)) ∧ u.2.1 = J ∧ u.2.2 = R ∧ uF M u.1) := by
  obtain ⟨p_hi4, p_k, p_k1, p_k2, p_k3, p_k4, p_l1, p_l2, p_l3, p_l4, p_r0, p_r1, p_r2, p_r3⟩ := id hp
  have p_hi : p < w.1 := by omega
  have p_hi1 : p + 1 < w.1 := by omega
  have p_hi2 : p + 2 < w.1 := by omega
  have p_hi3 : p + 3 < w.1 := by omega
  obtain ⟨f_hi1, f_k, f_k1, f_0⟩ := id hf
  have f_hi : f < w.1 := by omega
  have r47 := row_47 hw hR
  have m49 := mach_49 hw hR
  have m54 := mach_54 hw hR
  have hl24 : I.length ≤ 24 := hB.1
  have hr := run_is m49 hp hf hP hI hL
  obtain ⟨rc, hrc, h5⟩ := run_read P I hL hB
  have a49p := quad_apart m49 hp (by decide) (by decide) (by decide)
  refine Cg.of (own := RX6) (cc := cX6_rulingBytes) (maxL := 5) (ret := (some .int)) 2 (by decide) rfl rfl (Nat.le_of_ble_eq_true rfl) (fun X C hts V Rr => ?_)
  have F6 : FW X 6 := fun q h => hts q (List.mem_cons_of_mem _ (List.mem_append_left _ (List.mem_append_left _ (List.mem_append_left _ (List.mem_append_right _ h)))))
  have F0 : FW X 0 := fun q h => hts q (List.mem_cons_of_mem _ (List.mem_append_left _ (List.mem_append_left _ (List.mem_append_right _ h))))
  have F2 : FW X 2 := fun q h => hts q (List.mem_cons_of_mem _ (List.mem_append_left _ (List.mem_append_right _ h)))
  have F3 : FW X 3 := fun q h => hts q (List.mem_cons_of_mem _ (List.mem_append_right _ h))
  show Gj X 0 0 w M J R 0 [some (.ref (w.2.1 42)), some (.ref (w.2.1 p)), some (.ref (w.2.1 f)), none, none] []
  by_cases hE : RUN P I 0 8 = -1
  · have hE9 : (m_run M 49 p f) 49 8 = -1 := (hr.1 8 (by decide) (by decide)).trans hE
    refine g_aload_n C dX6_rulingBytes_0 rfl ?_
    refine g_getr (j := 49) C F6 (by rw [hw]; decide) rfl (by decide) 5 (by decide) rfl (hts (.fieldLink RX6 36 "FallBench$Trier" "asItIs" "LFallBench$Machine;") (by decide +kernel)) rfl (hR (42, 5, 49) (by decide)) dX6_rulingBytes_1 ?_
    refine g_aload_n C dX6_rulingBytes_4 rfl ?_
    refine g_aload_n C dX6_rulingBytes_5 rfl ?_
    refine g_callVf C hts V (i := 49) (gX6_rulingBytes_X0_runWhole) rfl hdX0_runWhole (by decide) (c_X0_runWhole m49 hp hf (okP_of hP hL)) (by rw [hw]; decide) rfl (by decide) rfl rfl (Nat.le_of_ble_eq_true rfl) dX6_rulingBytes_6 ?_
    refine g_aload_n C dX6_rulingBytes_9 rfl ?_
    refine g_getr (j := 49) C F6 (by rw [hw]; decide) rfl (by decide) 5 (by decide) rfl (hts (.fieldLink RX6 36 "FallBench$Trier" "asItIs" "LFallBench$Machine;") (by decide +kernel)) rfl (hR (42, 5, 49) (by decide)) dX6_rulingBytes_10 ?_
    refine g_callVf C hts V (i := 49) (gX6_rulingBytes_X0_endedAtAct) rfl hdX0_endedAtAct (by decide) (c_X0_endedAtAct m49) (by rw [hw]; decide) rfl (by decide) rfl rfl (Nat.le_of_ble_eq_true rfl) dX6_rulingBytes_13 ?_
    refine g_if_ne (tgt := 21) C dX6_rulingBytes_16 (by decide) (fun c16 => absurd c16 (not_not_intro (if_pos hE9))) (fun c16 => ?_)
    refine g_iconst (v := 0) C dX6_rulingBytes_19 (by decide) ?_
    exact g_iret C Rr ⟨rfl, ⟨by rw [if_pos hE], rfl, rfl, fun x y h => m_run_out (i := 49) (a := x) (by omega)⟩⟩ dX6_rulingBytes_20
  have hE9 : ¬ (m_run M 49 p f) 49 8 = -1 := fun z => hE ((hr.1 8 (by decide) (by decide)).symm.trans z)
  have hI1 : rowIs (m_run M 49 p f) f I := hI.o (fun x y h1 h2 => m_run_out (by omega))
  have hcp : rowIs (b_cp (m_run M 49 p f) 47 f I.length) 47 I := row_cp hI1 hl24
  have hF1 : uF M (b_cp (m_run M 49 p f) 47 f I.length) := fun x y h => by rw [b_cp_o _ (by omega) (by omega), m_run_out (by omega)]
  have hk49 : ∀ y, (b_cp (m_run M 49 p f) 47 f I.length) 49 y = (m_run M 49 p f) 49 y := fun y => b_cp_o _ (by decide) (by decide)
  have loop : ∀ dd j M0, j + dd = rc → uF M M0 → (∀ y, M0 49 y = (m_run M 49 p f) 49 y) → rowIs M0 47 I → Gj X 0 0 w M0 J R 34 [some (.ref (w.2.1 42)), some (.ref (w.2.1 p)), some (.ref (w.2.1 f)), some (.int (rbits (fun k => (hfd (rlB P (RUN P I 0 7) (RUN P I 0 8) (RUN P I 0 9) I k) 256).isSome) j)), some (.int (nI j))] [] := by
    intro dd
    induction dd with
    | zero =>
      intro j M0 hj hF0 h49 hI0
      obtain rfl : j = rc := by omega
      refine g_iload C dX6_rulingBytes_34 rfl ?_
      refine g_aload_n C dX6_rulingBytes_36 rfl ?_
      refine g_getr (j := 49) C F6 (by rw [hw]; decide) rfl (by decide) 5 (by decide) rfl (hts (.fieldLink RX6 36 "FallBench$Trier" "asItIs" "LFallBench$Machine;") (by decide +kernel)) rfl (hR (42, 5, 49) (by decide)) dX6_rulingBytes_37 ?_
      refine g_geti (v := nI j) C F0 (by rw [hw]; decide) rfl (by decide) 5 (by decide) rfl (hts (.fieldLink RX6 66 "FallBench$Machine" "readCount" "I") (by decide +kernel)) rfl (by rw [h49]; exact (hr.1 5 (by decide) (by decide)).trans h5) dX6_rulingBytes_40 ?_
      refine g_icmp_ge (tgt := 84) C dX6_rulingBytes_43 (by decide) (fun c43 => ?_) (fun c43 => absurd c43 (not_not_intro (nI_le (Nat.le_refl _) (by omega))))
      refine g_iload_n C dX6_rulingBytes_84 rfl ?_
      exact g_iret C Rr ⟨rfl, ⟨by rw [if_neg hE, h5, nI_clamp (by omega)], rfl, rfl, hF0⟩⟩ dX6_rulingBytes_85
    | succ dd ih =>
      intro j M0 hj hF0 h49 hI9
      have hP0 : progIs M0 p P := hP.o (fun x y h1 h2 => hF0 x y (by omega))
      have hIf : rowIs M0 f I := hI.o (fun x y h1 h2 => hF0 x y (by omega))
      refine g_iload C dX6_rulingBytes_34 rfl ?_
      refine g_aload_n C dX6_rulingBytes_36 rfl ?_
      refine g_getr (j := 49) C F6 (by rw [hw]; decide) rfl (by decide) 5 (by decide) rfl (hts (.fieldLink RX6 36 "FallBench$Trier" "asItIs" "LFallBench$Machine;") (by decide +kernel)) rfl (hR (42, 5, 49) (by decide)) dX6_rulingBytes_37 ?_
      refine g_geti (v := nI rc) C F0 (by rw [hw]; decide) rfl (by decide) 5 (by decide) rfl (hts (.fieldLink RX6 66 "FallBench$Machine" "readCount" "I") (by decide +kernel)) rfl (by rw [h49]; exact (hr.1 5 (by decide) (by decide)).trans h5) dX6_rulingBytes_40 ?_
      refine g_icmp_ge (tgt := 84) C dX6_rulingBytes_43 (by decide) (fun c43 => absurd c43 (nI_ge (by omega) (by omega))) (fun c43 => ?_)
      refine g_aload_n C dX6_rulingBytes_46 rfl ?_
      refine g_aload_n C dX6_rulingBytes_47 rfl ?_
      refine g_iload C dX6_rulingBytes_48 rfl ?_
      refine g_callVt C hts V (i := 42) (gX6_rulingBytes_X6_byteRules) rfl hdX6_byteRules (by decide) (c_X6_byteRules hw hR hp (by omega) hP0 hL hI9 (show j < I.length by omega) ((h49 7).trans (hr.1 7 (by decide) (by decide))) ((h49 8).trans (hr.1 8 (by decide) (by decide))) ((h49 9).trans (hr.1 9 (by decide) (by decide)))) (by rw [hw]; decide) rfl (by decide) rfl rfl (Nat.le_of_ble_eq_true rfl) dX6_rulingBytes_50 (fun v M1 J1 R1 h => ?_)
      obtain ⟨h0, hJ, hR1, I0, hI0, hx0, hT⟩ := h
      subst h0
      have hJ := Eq.symm hJ
      subst hJ
      have hR1 := Eq.symm hR1
      subst hR1
      try dsimp only at hI0 hT
      have hIf1 : rowIs M1 f I := hIf.o (fun x y h1 h2 => hT x y (by omega) (by omega))
      have hbv : b_at M1 f (nI j) = I.getD j 0 := by rw [hIf1.at, inAt, if_neg (nI_pos (by omega)), if_neg (nI_ge (by omega) (by omega)), nI_clamp (by omega)]
      have hI2 : rowIs (up2 M1 48 j (I.getD j 0)) 47 I := by
        have q := hI0.set (show j < I0.length by rw [hx0.1]; omega) (I.getD j 0)
        rw [hx0.2, set_getD9 I (by omega)] at q
        exact q
      show Gj X 0 0 w M1 J R 53 _ (.int (if (hfd (rlB P (RUN P I 0 7) (RUN P I 0 8) (RUN P I 0 9) I j) 256).isSome = true then 1 else 0) :: [])
      refine g_if_eq (tgt := 63) C dX6_rulingBytes_53 (by decide) (fun c53 => ?_) (fun c53 => ?_)
      · refine g_aload_n C dX6_rulingBytes_63 rfl ?_
        refine g_getr (j := 47) C F6 (by rw [hw]; decide) rfl (by decide) 4 (by decide) rfl (hts (.fieldLink RX6 30 "FallBench$Trier" "changed" "LFallBench$Row;") (by decide +kernel)) rfl (hR (42, 4, 47) (by decide)) dX6_rulingBytes_64 ?_
        refine g_iload C dX6_rulingBytes_67 rfl ?_
        refine g_aload_n C dX6_rulingBytes_69 rfl ?_
        refine g_iload C dX6_rulingBytes_70 rfl ?_
        refine g_callVf C hts V (i := f) (gX6_rulingBytes_X3_byteAt) rfl hdX3_byteAt (by decide) (Cf.to (c_X3_byteAt hf) (congrArg (fun z => some (Value.int z)) (hbv)) rfl) f_hi f_k (by decide) rfl rfl (Nat.le_of_ble_eq_true rfl) dX6_rulingBytes_72 ?_
        refine g_callVf C hts V (i := 47) (gX6_rulingBytes_X3_setByte) rfl hdX3_setByte (by decide) (Cf.to (c_X3_setByte r47) rfl (b_set_n hI0 (show j < I0.length by rw [hx0.1]; omega) _)) (by rw [hw]; decide) rfl (by decide) rfl rfl (Nat.le_of_ble_eq_true rfl) dX6_rulingBytes_75 ?_
        refine g_iinc (v := nI (j + 1)) C V.2.1 dX6_rulingBytes_78 rfl (nI_succ j).symm (by decide) rfl ?_
        refine g_goto (tgt := 34) C dX6_rulingBytes_81 (by decide) ?_
        have e9 : rbits (fun k => (hfd (rlB P (RUN P I 0 7) (RUN P I 0 8) (RUN P I 0 9) I k) 256).isSome) (j + 1) = (rbits (fun k => (hfd (rlB P (RUN P I 0 7) (RUN P I 0 8) (RUN P I 0 9) I k) 256).isSome) j) := by simp only [rbits]; rw [if_neg (fun y => by rw [if_pos y] at c53; exact absurd c53 (by decide))]
        have q9 := ih (j + 1) _ (by omega) (fun x y h => by rw [up2_n1 _ _ (by omega)]; exact (hT x y (by omega) (by omega)).trans (hF0 x y h)) (fun y => by rw [up2_n1 _ _ (by decide)]; exact (hT 49 y (by decide) (by decide)).trans (h49 y)) hI2
        rw [e9] at q9
        exact q9
      · refine g_iload_n C dX6_rulingBytes_56 rfl ?_
        refine g_iconst (v := 1) C dX6_rulingBytes_57 (by decide) ?_
        refine g_iload C dX6_rulingBytes_58 rfl ?_
        refine g_ishl C dX6_rulingBytes_60 ?_
        refine g_ior C dX6_rulingBytes_61 ?_
        refine g_istore_n C V.2.1 dX6_rulingBytes_62 (by decide) rfl ?_
        refine g_aload_n C dX6_rulingBytes_63 rfl ?_
        refine g_getr (j := 47) C F6 (by rw [hw]; decide) rfl (by decide) 4 (by decide) rfl (hts (.fieldLink RX6 30 "FallBench$Trier" "changed" "LFallBench$Row;") (by decide +kernel)) rfl (hR (42, 4, 47) (by decide)) dX6_rulingBytes_64 ?_
        refine g_iload C dX6_rulingBytes_67 rfl ?_
        refine g_aload_n C dX6_rulingBytes_69 rfl ?_
        refine g_iload C dX6_rulingBytes_70 rfl ?_
        refine g_callVf C hts V (i := f) (gX6_rulingBytes_X3_byteAt) rfl hdX3_byteAt (by decide) (Cf.to (c_X3_byteAt hf) (congrArg (fun z => some (Value.int z)) (hbv)) rfl) f_hi f_k (by decide) rfl rfl (Nat.le_of_ble_eq_true rfl) dX6_rulingBytes_72 ?_
        refine g_callVf C hts V (i := 47) (gX6_rulingBytes_X3_setByte) rfl hdX3_setByte (by decide) (Cf.to (c_X3_setByte r47) rfl (b_set_n hI0 (show j < I0.length by rw [hx0.1]; omega) _)) (by rw [hw]; decide) rfl (by decide) rfl rfl (Nat.le_of_ble_eq_true rfl) dX6_rulingBytes_75 ?_
        refine g_iinc (v := nI (j + 1)) C V.2.1 dX6_rulingBytes_78 rfl (nI_succ j).symm (by decide) rfl ?_
        refine g_goto (tgt := 34) C dX6_rulingBytes_81 (by decide) ?_
        have e9 : rbits (fun k => (hfd (rlB P (RUN P I 0 7) (RUN P I 0 8) (RUN P I 0 9) I k) 256).isSome) (j + 1) = (rbits (fun k => (hfd (rlB P (RUN P I 0 7) (RUN P I 0 8) (RUN P I 0 9) I k) 256).isSome) j) ||| (1 <<< (nI j &&& 31)) := by simp only [rbits]; rw [if_pos (Classical.byContradiction (fun y => c53 (if_neg y)))]
        have q9 := ih (j + 1) _ (by omega) (fun x y h => by rw [up2_n1 _ _ (by omega)]; exact (hT x y (by omega) (by omega)).trans (hF0 x y h)) (fun y => by rw [up2_n1 _ _ (by decide)]; exact (hT 49 y (by decide) (by decide)).trans (h49 y)) hI2
        rw [e9] at q9
        exact q9
  refine g_aload_n C dX6_rulingBytes_0 rfl ?_
  refine g_getr (j := 49) C F6 (by rw [hw]; decide) rfl (by decide) 5 (by decide) rfl (hts (.fieldLink RX6 36 "FallBench$Trier" "asItIs" "LFallBench$Machine;") (by decide +kernel)) rfl (hR (42, 5, 49) (by decide)) dX6_rulingBytes_1 ?_
  refine g_aload_n C dX6_rulingBytes_4 rfl ?_
  refine g_aload_n C dX6_rulingBytes_5 rfl ?_
  refine g_callVf C hts V (i := 49) (gX6_rulingBytes_X0_runWhole) rfl hdX0_runWhole (by decide) (c_X0_runWhole m49 hp hf (okP_of hP hL)) (by rw [hw]; decide) rfl (by decide) rfl rfl (Nat.le_of_ble_eq_true rfl) dX6_rulingBytes_6 ?_
  refine g_aload_n C dX6_rulingBytes_9 rfl ?_
  refine g_getr (j := 49) C F6 (by rw [hw]; decide) rfl (by decide) 5 (by decide) rfl (hts (.fieldLink RX6 36 "FallBench$Trier" "asItIs" "LFallBench$Machine;") (by decide +kernel)) rfl (hR (42, 5, 49) (by decide)) dX6_rulingBytes_10 ?_
  refine g_callVf C hts V (i := 49) (gX6_rulingBytes_X0_endedAtAct) rfl hdX0_endedAtAct (by decide) (c_X0_endedAtAct m49) (by rw [hw]; decide) rfl (by decide) rfl rfl (Nat.le_of_ble_eq_true rfl) dX6_rulingBytes_13 ?_
  refine g_if_ne (tgt := 21) C dX6_rulingBytes_16 (by decide) (fun c16 => ?_) (fun c16 => absurd c16 (by rw [if_neg hE9]; decide))
  refine g_aload_n C dX6_rulingBytes_21 rfl ?_
  refine g_getr (j := 47) C F6 (by rw [hw]; decide) rfl (by decide) 4 (by decide) rfl (hts (.fieldLink RX6 30 "FallBench$Trier" "changed" "LFallBench$Row;") (by decide +kernel)) rfl (hR (42, 4, 47) (by decide)) dX6_rulingBytes_22 ?_
  refine g_aload_n C dX6_rulingBytes_25 rfl ?_
  refine g_callVf C hts V (i := 47) (gX6_rulingBytes_X3_copyFrom) rfl hdX3_copyFrom (by decide) (c_X3_copyFrom r47 hf (by omega) hI1.2.1 hl24 hI1.1) (by rw [hw]; decide) rfl (by decide) rfl rfl (Nat.le_of_ble_eq_true rfl) dX6_rulingBytes_26 ?_
  refine g_iconst (v := 0) C dX6_rulingBytes_29 (by decide) ?_
  refine g_istore_n C V.2.1 dX6_rulingBytes_30 (by decide) rfl ?_
  refine g_iconst (v := 0) C dX6_rulingBytes_31 (by decide) ?_
  refine g_istore C V.2.1 dX6_rulingBytes_32 (by decide) rfl ?_
  exact loop rc 0 _ (by omega) hF1 hk49 hcp

/-- the first byte of the first n, and of it the least value, by which it ends WELL -/
def near (P : List act4) (I : List Int32) : Nat → Int32 × Int32
  | 0 => (-1, -1)
  | n + 1 => if (near P I n).1 = -1 then (match hfd (wlB P I n) 256 with
    | some v => (nI n, nI v)
    | none => (-1, -1)) else near P I n
def vF (M M' : Nat → Nat → Int32) : Prop := ∀ x y, ¬ (47 ≤ x ∧ x ≤ 58) → ¬ (x = 42 ∧ (y = 2 ∨ y = 3)) → M' x y = M x y
def NEAR (P : List act4) (I : List Int32) : Int32 × Int32 := if RUN P I 0 7 = 0 then (-1, -1) else near P I (RUN P I 0 5).toNatClampNeg
theorem near_stay (P : List act4) (I : List Int32) {j : Nat} (h : ¬ (near P I j).1 = -1) : ∀ n, j ≤ n → near P I n = near P I j := by
  intro n
  induction n with
  | zero => intro hn; obtain rfl : j = 0 := by omega
            rfl
  | succ n ih =>
    intro hn
    rcases Nat.lt_or_ge n j with q | q
    · obtain rfl : j = n + 1 := by omega
      rfl
    · rw [near, ih q, if_neg h]

theorem near_2 (P : List act4) (I : List Int32) : ∀ j, j ≤ 1000 → (near P I j).1 = -1 → (near P I j).2 = -1 := by
  intro j
  induction j with
  | zero => intro _ _; rfl
  | succ j ih =>
    intro hj h
    by_cases c : (near P I j).1 = -1
    · simp only [near, if_pos c] at h ⊢
      rcases hq : hfd (wlB P I j) 256 with _ | v
      · rfl
      · rw [hq] at h; exact absurd h (nm1 (by omega))
    · simp only [near, if_neg c] at h; exact absurd h c

set_option maxHeartbeats 4000000 in
set_option maxRecDepth 100000 in
theorem c_X6_findNearest {l : Launch} {D : va_G} {w : gw} {M : Nat → Nat → Int32} {J : Nat → Nat → Int64} {R : Nat → Nat → Option Nat} (hw : w.1 = 166) (hR : LayC R) {p f : Nat} {P : List act4} {I : List Int32} (hp : isProg w R p) (hpa : p + 4 < 25 ∨ 58 < p) (hf : isRow w R f) (hfa : 58 < f) (hP : progIs M p P) (hL : okL P) (hI : rowIs M f I) (hB : okI I) : Ct l yX6_findNearest wsX6_findNearest ({ frames := 5, cells := 0, slots := 0, locals := 120 } : Room) D w [.ref (w.2.1 42), .ref (w.2.1 p), .ref (w.2.1 f)] (M, J, R) (fun v u => v = none ∧ u.2.1 = J ∧ u.2.2 = R ∧ u.1 42 2 = (NEAR P I).1 ∧ u.1 42 3 = (NEAR P I).2 ∧ vF M u.1) := by
  obtain ⟨p_hi4, p_k, p_k1, p_k2, p_k3, p_k4, p_l1, p_l2, p_l3, p_l4, p_r0, p_r1, p_r2, p_r3⟩ := id hp
  have p_hi : p < w.1 := by omega
  have p_hi1 : p + 1 < w.1 := by omega
  have p_hi2 : p + 2 < w.1 := by omega
  have p_hi3 : p + 3 < w.1 := by omega
  obtain ⟨f_hi1, f_k, f_k1, f_0⟩ := id hf
  have f_hi : f < w.1 := by omega
  have r47 := row_47 hw hR
  have m49 := mach_49 hw hR
  have m54 := mach_54 hw hR
  have hl24 : I.length ≤ 24 := hB.1
  have o0 : ∀ x y, x ≠ 42 → (up2 (up2 M 42 2 (-1)) 42 3 (-1)) x y = M x y := fun x y h => by rw [up2_n1 _ _ h, up2_n1 _ _ h]
  have hPn : progIs (up2 (up2 M 42 2 (-1)) 42 3 (-1)) p P := hP.o (fun x y h1 h2 => o0 x y (by omega))
  have hIn : rowIs (up2 (up2 M 42 2 (-1)) 42 3 (-1)) f I := hI.o (fun x y h1 h2 => o0 x y (by omega))
  have hr := run_is m49 hp hf hPn hIn hL
  obtain ⟨rc, hrc, h5⟩ := run_read P I hL hB
  have hI1 : rowIs (m_run (up2 (up2 M 42 2 (-1)) 42 3 (-1)) 49 p f) f I := hIn.o (fun x y h1 h2 => m_run_out (by omega))
  have hcp : rowIs (b_cp (m_run (up2 (up2 M 42 2 (-1)) 42 3 (-1)) 49 p f) 47 f I.length) 47 I := row_cp hI1 hl24
  have hFa : vF M (m_run (up2 (up2 M 42 2 (-1)) 42 3 (-1)) 49 p f) := fun x y h h2 => by rw [m_run_out (by omega)]; simp only [up2]; rw [if_neg (by omega), if_neg (by omega)]
  have hF1 : vF M (b_cp (m_run (up2 (up2 M 42 2 (-1)) 42 3 (-1)) 49 p f) 47 f I.length) := fun x y h h2 => by rw [b_cp_o _ (by omega) (by omega)]; exact hFa x y h h2
  have hk49 : ∀ y, (b_cp (m_run (up2 (up2 M 42 2 (-1)) 42 3 (-1)) 49 p f) 47 f I.length) 49 y = (m_run (up2 (up2 M 42 2 (-1)) 42 3 (-1)) 49 p f) 49 y := fun y => b_cp_o _ (by decide) (by decide)
  refine Cg.of (own := RX6) (cc := cX6_findNearest) (maxL := 5) (ret := none) 2 (by decide) rfl rfl (Nat.le_of_ble_eq_true rfl) (fun X C hts V Rr => ?_)
  have F6 : FW X 6 := fun q h => hts q (List.mem_cons_of_mem _ (List.mem_append_left _ (List.mem_append_left _ (List.mem_append_left _ (List.mem_append_right _ h)))))
  have F0 : FW X 0 := fun q h => hts q (List.mem_cons_of_mem _ (List.mem_append_left _ (List.mem_append_left _ (List.mem_append_right _ h))))
  have F2 : FW X 2 := fun q h => hts q (List.mem_cons_of_mem _ (List.mem_append_left _ (List.mem_append_right _ h)))
  have F3 : FW X 3 := fun q h => hts q (List.mem_cons_of_mem _ (List.mem_append_right _ h))
  show Gj X 0 0 w M J R 0 [some (.ref (w.2.1 42)), some (.ref (w.2.1 p)), some (.ref (w.2.1 f)), none, none] []
  by_cases hE : RUN P I 0 7 = 0
  · refine g_aload_n C dX6_findNearest_0 rfl ?_
    refine g_iconst (v := (-1)) C dX6_findNearest_1 (by decide) ?_
    refine g_puti C F6 (by rw [hw]; decide) rfl (by decide) 2 (by decide) rfl (hts (.fieldLink RX6 23 "FallBench$Trier" "nearestPlace" "I") (by decide +kernel)) rfl rfl rfl rfl dX6_findNearest_2 ?_
    refine g_aload_n C dX6_findNearest_5 rfl ?_
    refine g_iconst (v := (-1)) C dX6_findNearest_6 (by decide) ?_
    refine g_puti C F6 (by rw [hw]; decide) rfl (by decide) 3 (by decide) rfl (hts (.fieldLink RX6 27 "FallBench$Trier" "nearestValue" "I") (by decide +kernel)) rfl rfl rfl rfl dX6_findNearest_7 ?_
    refine g_aload_n C dX6_findNearest_10 rfl ?_
    refine g_getr (j := 49) C F6 (by rw [hw]; decide) rfl (by decide) 5 (by decide) rfl (hts (.fieldLink RX6 36 "FallBench$Trier" "asItIs" "LFallBench$Machine;") (by decide +kernel)) rfl (hR (42, 5, 49) (by decide)) dX6_findNearest_11 ?_
    refine g_aload_n C dX6_findNearest_14 rfl ?_
    refine g_aload_n C dX6_findNearest_15 rfl ?_
    refine g_callVf C hts V (i := 49) (gX6_findNearest_X0_runWhole) rfl hdX0_runWhole (by decide) (c_X0_runWhole m49 hp hf (okP_of hPn hL)) (by rw [hw]; decide) rfl (by decide) rfl rfl (Nat.le_of_ble_eq_true rfl) dX6_findNearest_16 ?_
    refine g_aload_n C dX6_findNearest_19 rfl ?_
    refine g_getr (j := 49) C F6 (by rw [hw]; decide) rfl (by decide) 5 (by decide) rfl (hts (.fieldLink RX6 36 "FallBench$Trier" "asItIs" "LFallBench$Machine;") (by decide +kernel)) rfl (hR (42, 5, 49) (by decide)) dX6_findNearest_20 ?_
    refine g_geti (v := RUN P I 0 7) C F0 (by rw [hw]; decide) rfl (by decide) 7 (by decide) rfl (hts (.fieldLink RX6 81 "FallBench$Machine" "ended" "I") (by decide +kernel)) rfl (hr.1 7 (by decide) (by decide)) dX6_findNearest_23 ?_
    refine g_if_ne (tgt := 30) C dX6_findNearest_26 (by decide) (fun c26 => absurd c26 (not_not_intro hE)) (fun c26 => ?_)
    exact g_vret C Rr ⟨rfl, ⟨rfl, rfl, rfl, by rw [NEAR, if_pos hE]; show (m_run (up2 (up2 M 42 2 (-1)) 42 3 (-1)) 49 p f) 42 2 = _; rw [m_run_out (by omega), up2_n2 _ _ (by decide), up2_eq], by rw [NEAR, if_pos hE]; show (m_run (up2 (up2 M 42 2 (-1)) 42 3 (-1)) 49 p f) 42 3 = _; rw [m_run_out (by omega), up2_eq], hFa⟩⟩ dX6_findNearest_29
  have hN : NEAR P I = near P I rc := by rw [NEAR, if_neg hE, h5, nI_clamp (by omega)]
  have loop : ∀ dd j M0 z, j + dd = rc → vF M M0 → (∀ y, M0 49 y = (m_run (up2 (up2 M 42 2 (-1)) 42 3 (-1)) 49 p f) 49 y) → rowIs M0 47 I → M0 42 2 = (near P I j).1 → M0 42 3 = (near P I j).2 → Gj X 0 0 w M0 J R 40 [some (.ref (w.2.1 42)), some (.ref (w.2.1 p)), some (.ref (w.2.1 f)), some (.int (nI j)), z] [] := by
    intro dd
    induction dd with
    | zero =>
      intro j M0 z hj hF0 h49 hI0 n2 n3
      obtain rfl : j = rc := by omega
      refine g_iload_n C dX6_findNearest_40 rfl ?_
      refine g_aload_n C dX6_findNearest_41 rfl ?_
      refine g_getr (j := 49) C F6 (by rw [hw]; decide) rfl (by decide) 5 (by decide) rfl (hts (.fieldLink RX6 36 "FallBench$Trier" "asItIs" "LFallBench$Machine;") (by decide +kernel)) rfl (hR (42, 5, 49) (by decide)) dX6_findNearest_42 ?_
      refine g_geti (v := nI j) C F0 (by rw [hw]; decide) rfl (by decide) 5 (by decide) rfl (hts (.fieldLink RX6 66 "FallBench$Machine" "readCount" "I") (by decide +kernel)) rfl (by rw [h49]; exact (hr.1 5 (by decide) (by decide)).trans h5) dX6_findNearest_45 ?_
      refine g_icmp_ge (tgt := 103) C dX6_findNearest_48 (by decide) (fun c48 => ?_) (fun c48 => absurd c48 (not_not_intro (nI_le (Nat.le_refl _) (by omega))))
      exact g_vret C Rr ⟨rfl, ⟨rfl, rfl, rfl, by rw [hN]; exact n2, by rw [hN]; exact n3, hF0⟩⟩ dX6_findNearest_103
    | succ dd ih =>
      intro j M0 z hj hF0 h49 hI9 n2 n3
      have hP0 : progIs M0 p P := hP.o (fun x y h1 h2 => hF0 x y (by omega) (by omega))
      have hIf : rowIs M0 f I := hI.o (fun x y h1 h2 => hF0 x y (by omega) (by omega))
      refine g_iload_n C dX6_findNearest_40 rfl ?_
      refine g_aload_n C dX6_findNearest_41 rfl ?_
      refine g_getr (j := 49) C F6 (by rw [hw]; decide) rfl (by decide) 5 (by decide) rfl (hts (.fieldLink RX6 36 "FallBench$Trier" "asItIs" "LFallBench$Machine;") (by decide +kernel)) rfl (hR (42, 5, 49) (by decide)) dX6_findNearest_42 ?_
      refine g_geti (v := nI rc) C F0 (by rw [hw]; decide) rfl (by decide) 5 (by decide) rfl (hts (.fieldLink RX6 66 "FallBench$Machine" "readCount" "I") (by decide +kernel)) rfl (by rw [h49]; exact (hr.1 5 (by decide) (by decide)).trans h5) dX6_findNearest_45 ?_
      refine g_icmp_ge (tgt := 103) C dX6_findNearest_48 (by decide) (fun c48 => absurd c48 (nI_ge (by omega) (by omega))) (fun c48 => ?_)
      refine g_aload_n C dX6_findNearest_51 rfl ?_
      refine g_geti C F6 (by rw [hw]; decide) rfl (by decide) 2 (by decide) rfl (hts (.fieldLink RX6 23 "FallBench$Trier" "nearestPlace" "I") (by decide +kernel)) rfl rfl dX6_findNearest_52 ?_
      refine g_iconst (v := (-1)) C dX6_findNearest_55 (by decide) ?_
      refine g_icmp_ne (tgt := 103) C dX6_findNearest_56 (by decide) (fun c56 => ?_) (fun c56 => ?_)
      · exact g_vret C Rr ⟨rfl, ⟨rfl, rfl, rfl, by rw [hN, near_stay P I (j := j) (fun z => c56 (n2.trans z)) rc (by omega)]; exact n2, by rw [hN, near_stay P I (j := j) (fun z => c56 (n2.trans z)) rc (by omega)]; exact n3, hF0⟩⟩ dX6_findNearest_103
      · refine g_aload_n C dX6_findNearest_59 rfl ?_
        refine g_aload_n C dX6_findNearest_60 rfl ?_
        refine g_iload_n C dX6_findNearest_61 rfl ?_
        refine g_callVt C hts V (i := 42) (gX6_findNearest_X6_leastThatEndsWell) rfl hdX6_leastThatEndsWell (by decide) (c_X6_leastThatEndsWell hw hR hp (by omega) hP0 hL hI9 (show j < I.length by omega)) (by rw [hw]; decide) rfl (by decide) rfl rfl (Nat.le_of_ble_eq_true rfl) dX6_findNearest_62 (fun v M1 J1 R1 h => ?_)
        obtain ⟨h0, hJ, hR1, I0, hI0, hx0, hT⟩ := h
        subst h0
        have hJ := Eq.symm hJ
        subst hJ
        have hR1 := Eq.symm hR1
        subst hR1
        try dsimp only at hI0 hT
        have hIf1 : rowIs M1 f I := hIf.o (fun x y h1 h2 => hT x y (by omega) (by omega))
        have n21 : M1 42 2 = -1 := (hT 42 2 (by decide) (by decide)).trans c56
        have n31 : M1 42 3 = (near P I j).2 := (hT 42 3 (by decide) (by decide)).trans n3
        have c9 : (near P I j).1 = -1 := n2.symm.trans c56
        have hj9 : j < I0.length := by rw [hx0.1]; omega
        have hset : ∀ Z : Nat → Nat → Int32, rowIs Z 47 I0 → rowIs (up2 Z 48 j (I.getD j 0)) 47 I := fun Z hZ => by
          have q := hZ.set hj9 (I.getD j 0)
          rw [hx0.2, set_getD9 I (by omega)] at q
          exact q
        have hbv : ∀ Z : Nat → Nat → Int32, rowIs Z f I → b_at Z f (nI j) = I.getD j 0 := fun Z hZ => by rw [hZ.at, inAt, if_neg (nI_pos (by omega)), if_neg (nI_ge (by omega) (by omega)), nI_clamp (by omega)]
        show Gj X 0 0 w M1 J R 65 _ (.int (optI (hfd (wlB P I j) 256)) :: [])
        refine g_istore C V.2.1 dX6_findNearest_65 (by decide) rfl ?_
        refine g_iload C dX6_findNearest_67 rfl ?_
        refine g_iconst (v := (-1)) C dX6_findNearest_69 (by decide) ?_
        refine g_icmp_eq (tgt := 84) C dX6_findNearest_70 (by decide) (fun c70 => ?_) (fun c70 => ?_)
        · refine g_aload_n C dX6_findNearest_84 rfl ?_
          refine g_getr (j := 47) C F6 (by rw [hw]; decide) rfl (by decide) 4 (by decide) rfl (hts (.fieldLink RX6 30 "FallBench$Trier" "changed" "LFallBench$Row;") (by decide +kernel)) rfl (hR (42, 4, 47) (by decide)) dX6_findNearest_85 ?_
          refine g_iload_n C dX6_findNearest_88 rfl ?_
          refine g_aload_n C dX6_findNearest_89 rfl ?_
          refine g_iload_n C dX6_findNearest_90 rfl ?_
          refine g_callVf C hts V (i := f) (gX6_findNearest_X3_byteAt) rfl hdX3_byteAt (by decide) (Cf.to (c_X3_byteAt hf) (congrArg (fun z => some (Value.int z)) (hbv M1 hIf1)) rfl) f_hi f_k (by decide) rfl rfl (Nat.le_of_ble_eq_true rfl) dX6_findNearest_91 ?_
          refine g_callVf C hts V (i := 47) (gX6_findNearest_X3_setByte) rfl hdX3_setByte (by decide) (Cf.to (c_X3_setByte r47) rfl (b_set_n hI0 hj9 _)) (by rw [hw]; decide) rfl (by decide) rfl rfl (Nat.le_of_ble_eq_true rfl) dX6_findNearest_94 ?_
          refine g_iinc (v := nI (j + 1)) C V.2.1 dX6_findNearest_97 rfl (nI_succ j).symm (by decide) rfl ?_
          refine g_goto (tgt := 40) C dX6_findNearest_100 (by decide) ?_
          have hno : hfd (wlB P I j) 256 = none := by
            rcases hq : hfd (wlB P I j) 256 with _ | v
            · rfl
            · rw [hq] at c70; exact absurd c70 (nm1 (by have := (hfd_spec hq).1; omega))
          have e9 : near P I (j + 1) = (-1, -1) := by rw [near, if_pos c9, hno]
          exact ih (j + 1) _ _ (by omega) (fun x y h h2 => by rw [up2_n1 _ _ (by omega)]; exact (hT x y (by omega) (by omega)).trans (hF0 x y h h2)) (fun y => by rw [up2_n1 _ _ (by decide)]; exact (hT 49 y (by decide) (by decide)).trans (h49 y)) (hset M1 hI0) (by rw [up2_n1 _ _ (by decide), e9]; exact n21) (by rw [up2_n1 _ _ (by decide), e9, n31]; exact near_2 P I j (by omega) c9)
        · refine g_aload_n C dX6_findNearest_73 rfl ?_
          refine g_iload_n C dX6_findNearest_74 rfl ?_
          refine g_puti C F6 (by rw [hw]; decide) rfl (by decide) 2 (by decide) rfl (hts (.fieldLink RX6 23 "FallBench$Trier" "nearestPlace" "I") (by decide +kernel)) rfl rfl rfl rfl dX6_findNearest_75 ?_
          refine g_aload_n C dX6_findNearest_78 rfl ?_
          refine g_iload C dX6_findNearest_79 rfl ?_
          refine g_puti C F6 (by rw [hw]; decide) rfl (by decide) 3 (by decide) rfl (hts (.fieldLink RX6 27 "FallBench$Trier" "nearestValue" "I") (by decide +kernel)) rfl rfl rfl rfl dX6_findNearest_81 ?_
          refine g_aload_n C dX6_findNearest_84 rfl ?_
          refine g_getr (j := 47) C F6 (by rw [hw]; decide) rfl (by decide) 4 (by decide) rfl (hts (.fieldLink RX6 30 "FallBench$Trier" "changed" "LFallBench$Row;") (by decide +kernel)) rfl (hR (42, 4, 47) (by decide)) dX6_findNearest_85 ?_
          refine g_iload_n C dX6_findNearest_88 rfl ?_
          refine g_aload_n C dX6_findNearest_89 rfl ?_
          refine g_iload_n C dX6_findNearest_90 rfl ?_
          refine g_callVf C hts V (i := f) (gX6_findNearest_X3_byteAt) rfl hdX3_byteAt (by decide) (Cf.to (c_X3_byteAt hf) (congrArg (fun z => some (Value.int z)) (hbv (up2 (up2 M1 42 2 (nI j)) 42 3 (optI (hfd (wlB P I j) 256))) (hIf1.o (M' := (up2 (up2 M1 42 2 (nI j)) 42 3 (optI (hfd (wlB P I j) 256)))) (fun x y h1 h2 => by rw [up2_n1 _ _ (by omega), up2_n1 _ _ (by omega)])))) rfl) f_hi f_k (by decide) rfl rfl (Nat.le_of_ble_eq_true rfl) dX6_findNearest_91 ?_
          refine g_callVf C hts V (i := 47) (gX6_findNearest_X3_setByte) rfl hdX3_setByte (by decide) (Cf.to (c_X3_setByte r47) rfl (b_set_n (hI0.o (M' := (up2 (up2 M1 42 2 (nI j)) 42 3 (optI (hfd (wlB P I j) 256)))) (fun x y h1 h2 => by rw [up2_n1 _ _ (by omega), up2_n1 _ _ (by omega)])) hj9 _)) (by rw [hw]; decide) rfl (by decide) rfl rfl (Nat.le_of_ble_eq_true rfl) dX6_findNearest_94 ?_
          refine g_iinc (v := nI (j + 1)) C V.2.1 dX6_findNearest_97 rfl (nI_succ j).symm (by decide) rfl ?_
          refine g_goto (tgt := 40) C dX6_findNearest_100 (by decide) ?_
          obtain ⟨v, hv⟩ : ∃ v, hfd (wlB P I j) 256 = some v := by
            rcases hq : hfd (wlB P I j) 256 with _ | v
            · rw [hq] at c70; exact absurd rfl c70
            · exact ⟨v, rfl⟩
          have e9 : near P I (j + 1) = (nI j, nI v) := by rw [near, if_pos c9, hv]
          have hYo : ∀ x y, ¬ (x = 42 ∧ (y = 2 ∨ y = 3)) → (up2 (up2 M1 42 2 (nI j)) 42 3 (optI (hfd (wlB P I j) 256))) x y = M1 x y := fun x y h => by simp only [up2]; rw [if_neg (by omega), if_neg (by omega)]
          exact ih (j + 1) _ _ (by omega) (fun x y h h2 => by rw [up2_n1 _ _ (by omega), hYo x y h2]; exact (hT x y (by omega) (by omega)).trans (hF0 x y h h2)) (fun y => by rw [up2_n1 _ _ (by decide), hYo 49 y (by omega)]; exact (hT 49 y (by decide) (by decide)).trans (h49 y)) (hset _ (hI0.o (fun x y h1 h2 => hYo x y (by omega)))) (by rw [up2_n1 _ _ (by decide), up2_n2 _ _ (by decide), up2_eq, e9]) (by rw [up2_n1 _ _ (by decide), up2_eq, hv, e9]; rfl)
  refine g_aload_n C dX6_findNearest_0 rfl ?_
  refine g_iconst (v := (-1)) C dX6_findNearest_1 (by decide) ?_
  refine g_puti C F6 (by rw [hw]; decide) rfl (by decide) 2 (by decide) rfl (hts (.fieldLink RX6 23 "FallBench$Trier" "nearestPlace" "I") (by decide +kernel)) rfl rfl rfl rfl dX6_findNearest_2 ?_
  refine g_aload_n C dX6_findNearest_5 rfl ?_
  refine g_iconst (v := (-1)) C dX6_findNearest_6 (by decide) ?_
  refine g_puti C F6 (by rw [hw]; decide) rfl (by decide) 3 (by decide) rfl (hts (.fieldLink RX6 27 "FallBench$Trier" "nearestValue" "I") (by decide +kernel)) rfl rfl rfl rfl dX6_findNearest_7 ?_
  refine g_aload_n C dX6_findNearest_10 rfl ?_
  refine g_getr (j := 49) C F6 (by rw [hw]; decide) rfl (by decide) 5 (by decide) rfl (hts (.fieldLink RX6 36 "FallBench$Trier" "asItIs" "LFallBench$Machine;") (by decide +kernel)) rfl (hR (42, 5, 49) (by decide)) dX6_findNearest_11 ?_
  refine g_aload_n C dX6_findNearest_14 rfl ?_
  refine g_aload_n C dX6_findNearest_15 rfl ?_
  refine g_callVf C hts V (i := 49) (gX6_findNearest_X0_runWhole) rfl hdX0_runWhole (by decide) (c_X0_runWhole m49 hp hf (okP_of hPn hL)) (by rw [hw]; decide) rfl (by decide) rfl rfl (Nat.le_of_ble_eq_true rfl) dX6_findNearest_16 ?_
  refine g_aload_n C dX6_findNearest_19 rfl ?_
  refine g_getr (j := 49) C F6 (by rw [hw]; decide) rfl (by decide) 5 (by decide) rfl (hts (.fieldLink RX6 36 "FallBench$Trier" "asItIs" "LFallBench$Machine;") (by decide +kernel)) rfl (hR (42, 5, 49) (by decide)) dX6_findNearest_20 ?_
  refine g_geti (v := RUN P I 0 7) C F0 (by rw [hw]; decide) rfl (by decide) 7 (by decide) rfl (hts (.fieldLink RX6 81 "FallBench$Machine" "ended" "I") (by decide +kernel)) rfl (hr.1 7 (by decide) (by decide)) dX6_findNearest_23 ?_
  refine g_if_ne (tgt := 30) C dX6_findNearest_26 (by decide) (fun c26 => ?_) (fun c26 => absurd c26 hE)
  refine g_aload_n C dX6_findNearest_30 rfl ?_
  refine g_getr (j := 47) C F6 (by rw [hw]; decide) rfl (by decide) 4 (by decide) rfl (hts (.fieldLink RX6 30 "FallBench$Trier" "changed" "LFallBench$Row;") (by decide +kernel)) rfl (hR (42, 4, 47) (by decide)) dX6_findNearest_31 ?_
  refine g_aload_n C dX6_findNearest_34 rfl ?_
  refine g_callVf C hts V (i := 47) (gX6_findNearest_X3_copyFrom) rfl hdX3_copyFrom (by decide) (c_X3_copyFrom r47 hf (by omega) hI1.2.1 hl24 hI1.1) (by rw [hw]; decide) rfl (by decide) rfl rfl (Nat.le_of_ble_eq_true rfl) dX6_findNearest_35 ?_
  refine g_iconst (v := 0) C dX6_findNearest_38 (by decide) ?_
  refine g_istore_n C V.2.1 dX6_findNearest_39 (by decide) rfl ?_
  exact loop rc 0 _ _ (by omega) hF1 hk49 hcp (by rw [b_cp_o _ (by decide) (by decide), m_run_out (by omega), up2_n2 _ _ (by decide), up2_eq]; rfl) (by rw [b_cp_o _ (by decide) (by decide), m_run_out (by omega), up2_eq]; rfl)
