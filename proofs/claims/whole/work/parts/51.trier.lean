/-! the class's trier: one byte tried -/
theorem getD_set (I : List Int32) {k j : Nat} (v : Int32) (h : j ≠ k) : (I.set k v).getD j 0 = I.getD j 0 := by
  simp only [List.getD, List.getElem?_set_ne (fun q => h q.symm)]
theorem getD_set_eq (I : List Int32) {k : Nat} (v : Int32) (h : k < I.length) : (I.set k v).getD k 0 = v := by
  simp only [List.getD, List.getElem?_set_self h, Option.getD]
theorem b_set_n {M : Nat → Nat → Int32} {r k : Nat} {I : List Int32} (h : rowIs M r I) (hk : k < I.length) (v : Int32) : b_set M r (nI k) v = up2 M (r + 1) k v := by
  have hl := ln_lt (r + 1)
  obtain ⟨h1, h2, h3⟩ := h
  rw [b_set, if_neg (nI_pos (by omega)), h2, if_neg (nI_ge hk (by omega)), if_neg (nI_ge (by omega) hl), nI_clamp (by omega)]
theorem rowIs.set {M : Nat → Nat → Int32} {r k : Nat} {I : List Int32} (h : rowIs M r I) (hk : k < I.length) (v : Int32) : rowIs (up2 M (r + 1) k v) r (I.set k v) := by
  obtain ⟨h1, h2, h3⟩ := h
  refine ⟨by rw [List.length_set]; exact h1, by rw [up2_n1 _ _ (by omega), List.length_set]; exact h2, fun j hj => ?_⟩
  rw [List.length_set] at hj
  by_cases e : j = k
  · subst e; rw [up2_eq, getD_set_eq I v hk]
  · rw [up2_n2 _ _ e, getD_set I v e]; exact h3 j hj
/-- lists that are alike but for byte k -/
def eqx (I0 I : List Int32) (k : Nat) : Prop := I0.length = I.length ∧ ∀ v, I0.set k v = I.set k v
theorem eqx.rf (I : List Int32) (k : Nat) : eqx I I k := ⟨rfl, fun _ => rfl⟩
theorem eqx.set {I0 I : List Int32} {k : Nat} (h : eqx I0 I k) (v : Int32) : eqx (I0.set k v) I k := ⟨by rw [List.length_set]; exact h.1, fun u => by rw [List.set_set]; exact h.2 u⟩
def tF (M M' : Nat → Nat → Int32) : Prop := ∀ x y, ¬ x = 48 → ¬ (54 ≤ x ∧ x ≤ 58) → M' x y = M x y
theorem tF.rf (M : Nat → Nat → Int32) : tF M M := fun _ _ _ _ => rfl
abbrev rl (P : List act4) (e a x : Int32) (I : List Int32) : Prop := RUN P I 0 7 = e ∧ RUN P I 0 8 = a ∧ ¬ RUN P I 0 9 = x
abbrev rlB (P : List act4) (e a x : Int32) (I : List Int32) (k : Nat) : Nat → Prop := fun v => rl P e a x (I.set k (nI v))
abbrev wlB (P : List act4) (I : List Int32) (k : Nat) : Nat → Prop := fun v => RUN P (I.set k (nI v)) 0 7 = 0

theorem hdX6_makeSmall : yX6_makeSmall.cls = cR 6 ∧ yX6_makeSmall.cls ≠ "java/lang/invoke/MethodHandle" ∧ yX6_makeSmall.cls ≠ "java/lang/invoke/VarHandle" ∧ (parseMethodDescriptor yX6_makeSmall.desc).map (fun d => d.parameters.length) = some 2 := by decide +kernel

theorem hdX6_rulingBytes : yX6_rulingBytes.cls = cR 6 ∧ yX6_rulingBytes.cls ≠ "java/lang/invoke/MethodHandle" ∧ yX6_rulingBytes.cls ≠ "java/lang/invoke/VarHandle" ∧ (parseMethodDescriptor yX6_rulingBytes.desc).map (fun d => d.parameters.length) = some 2 := by decide +kernel

theorem hdX6_findNearest : yX6_findNearest.cls = cR 6 ∧ yX6_findNearest.cls ≠ "java/lang/invoke/MethodHandle" ∧ yX6_findNearest.cls ≠ "java/lang/invoke/VarHandle" ∧ (parseMethodDescriptor yX6_findNearest.desc).map (fun d => d.parameters.length) = some 2 := by decide +kernel

theorem hdX6_leaveOutOnce : yX6_leaveOutOnce.cls = cR 6 ∧ yX6_leaveOutOnce.cls ≠ "java/lang/invoke/MethodHandle" ∧ yX6_leaveOutOnce.cls ≠ "java/lang/invoke/VarHandle" ∧ (parseMethodDescriptor yX6_leaveOutOnce.desc).map (fun d => d.parameters.length) = some 1 := by decide +kernel

theorem hdX6_lowerByte : yX6_lowerByte.cls = cR 6 ∧ yX6_lowerByte.cls ≠ "java/lang/invoke/MethodHandle" ∧ yX6_lowerByte.cls ≠ "java/lang/invoke/VarHandle" ∧ (parseMethodDescriptor yX6_lowerByte.desc).map (fun d => d.parameters.length) = some 2 := by decide +kernel

theorem hdX6_byteRules : yX6_byteRules.cls = cR 6 ∧ yX6_byteRules.cls ≠ "java/lang/invoke/MethodHandle" ∧ yX6_byteRules.cls ≠ "java/lang/invoke/VarHandle" ∧ (parseMethodDescriptor yX6_byteRules.desc).map (fun d => d.parameters.length) = some 2 := by decide +kernel

theorem hdX6_leastThatEndsWell : yX6_leastThatEndsWell.cls = cR 6 ∧ yX6_leastThatEndsWell.cls ≠ "java/lang/invoke/MethodHandle" ∧ yX6_leastThatEndsWell.cls ≠ "java/lang/invoke/VarHandle" ∧ (parseMethodDescriptor yX6_leastThatEndsWell.desc).map (fun d => d.parameters.length) = some 2 := by decide +kernel

set_option maxHeartbeats 4000000 in
set_option maxRecDepth 100000 in
theorem c_X6_byteRules {l : Launch} {D : va_G} {w : gw} {M : Nat → Nat → Int32} {J : Nat → Nat → Int64} {R : Nat → Nat → Option Nat} (hw : w.1 = 166) (hR : LayC R) {p k : Nat} {P : List act4} {I : List Int32} (hp : isProg w R p) (hpa : p + 4 < 43 ∨ 58 < p) (hP : progIs M p P) (hL : okL P) (hI : rowIs M 47 I) (hk : k < I.length) {e a x : Int32} (he9 : M 49 7 = e) (ha9 : M 49 8 = a) (hx9 : M 49 9 = x) : Ct l yX6_byteRules wsX6_byteRules ({ frames := 4, cells := 0, slots := 0, locals := 97 } : Room) D w [.ref (w.2.1 42), .ref (w.2.1 p), .int (nI k)] (M, J, R) (fun v u => v = some (.int (if (hfd (rlB P e a x I k) 256).isSome = true then 1 else 0)) ∧ u.2.1 = J ∧ u.2.2 = R ∧ ∃ I0, rowIs u.1 47 I0 ∧ eqx I0 I k ∧ tF M u.1) := by
  obtain ⟨p_hi4, p_k, p_k1, p_k2, p_k3, p_k4, p_l1, p_l2, p_l3, p_l4, p_r0, p_r1, p_r2, p_r3⟩ := id hp
  have p_hi : p < w.1 := by omega
  have p_hi1 : p + 1 < w.1 := by omega
  have p_hi2 : p + 2 < w.1 := by omega
  have p_hi3 : p + 3 < w.1 := by omega
  have r47 := row_47 hw hR
  have m54 := mach_54 hw hR
  have hl24 : I.length ≤ 24 := hI.1
  refine Cg.of (own := RX6) (cc := cX6_byteRules) (maxL := 4) (ret := (some .boolean)) 1 (by decide) rfl rfl (Nat.le_of_ble_eq_true rfl) (fun X C hts V Rr => ?_)
  have F6 : FW X 6 := fun q h => hts q (List.mem_cons_of_mem _ (List.mem_append_left _ (List.mem_append_left _ (List.mem_append_left _ (List.mem_append_right _ h)))))
  have F0 : FW X 0 := fun q h => hts q (List.mem_cons_of_mem _ (List.mem_append_left _ (List.mem_append_left _ (List.mem_append_right _ h))))
  have F3 : FW X 3 := fun q h => hts q (List.mem_cons_of_mem _ (List.mem_append_left _ (List.mem_append_right _ h)))
  have F2 : FW X 2 := fun q h => hts q (List.mem_cons_of_mem _ (List.mem_append_right _ h))
  show Gj X 0 0 w M J R 0 [some (.ref (w.2.1 42)), some (.ref (w.2.1 p)), some (.int (nI k)), none] []
  have loop : ∀ dd j M0 I0, j + dd = 256 → tF M M0 → rowIs M0 47 I0 → eqx I0 I k → hfd (rlB P e a x I k) j = none → Gj X 0 0 w M0 J R 2 [some (.ref (w.2.1 42)), some (.ref (w.2.1 p)), some (.int (nI k)), some (.int (nI j))] [] := by
    intro dd
    induction dd with
    | zero =>
      intro j M0 I0 hj hF0 hI0 hx hv
      obtain rfl : j = 256 := by omega
      refine g_iload_n C dX6_byteRules_2 rfl ?_
      refine g_sipush (v := 256) C dX6_byteRules_3 (by decide) ?_
      refine g_icmp_ge (tgt := 89) C dX6_byteRules_6 (by decide) (fun c6 => ?_) (fun c6 => absurd c6 (not_not_intro (by decide)))
      refine g_iconst (v := 0) C dX6_byteRules_89 (by decide) ?_
      exact g_zret C Rr rfl ⟨rfl, ⟨by rw [hv]; rfl, rfl, rfl, I0, hI0, hx, hF0⟩⟩ dX6_byteRules_90
    | succ dd ih =>
      intro j M0 I0 hj hF0 hI0 hx hv
      have hl0 : I0.length = I.length := hx.1
      have hR0 : rowIs (up2 M0 48 k (nI j)) 47 (I0.set k (nI j)) := hI0.set (by omega) _
      have hP0 : progIs (up2 M0 48 k (nI j)) p P := (hP.o (M' := M0) (fun x y h1 h2 => hF0 x y (by omega) (by omega))).o (fun x y h1 h2 => up2_n1 _ _ (by omega))
      have hr := run_is m54 hp r47 hP0 hR0 hL
      rw [hx.2 (nI j)] at hr hR0
      have hF1 : tF M (m_run (up2 M0 48 k (nI j)) 54 p 47) := fun x y h1 h2 => by rw [m_run_out (by omega), up2_n1 _ _ h1]; exact hF0 x y h1 h2
      have hR1 : rowIs (m_run (up2 M0 48 k (nI j)) 54 p 47) 47 (I.set k (nI j)) := hR0.o (fun x y h1 h2 => m_run_out (by omega))
      have hx1 : eqx (I.set k (nI j)) I k := (eqx.rf I k).set _
      refine g_iload_n C dX6_byteRules_2 rfl ?_
      refine g_sipush (v := 256) C dX6_byteRules_3 (by decide) ?_
      refine g_icmp_ge (tgt := 89) C dX6_byteRules_6 (by decide) (fun c6 => absurd c6 (fun y => absurd ((nI_leI (a := 256) (b := j) (by decide) (by omega)).mp y) (by omega))) (fun c6 => ?_)
      refine g_aload_n C dX6_byteRules_9 rfl ?_
      refine g_getr (j := 47) C F6 (by rw [hw]; decide) rfl (by decide) 4 (by decide) rfl (hts (.fieldLink RX6 30 "FallBench$Trier" "changed" "LFallBench$Row;") (by decide +kernel)) rfl (hR (42, 4, 47) (by decide)) dX6_byteRules_10 ?_
      refine g_iload_n C dX6_byteRules_13 rfl ?_
      refine g_iload_n C dX6_byteRules_14 rfl ?_
      refine g_callVf C hts V (i := 47) (gX6_byteRules_X3_setByte) rfl hdX3_setByte (by decide) (Cf.to (c_X3_setByte r47) rfl (b_set_n hI0 (show k < I0.length by omega) _)) (by rw [hw]; decide) rfl (by decide) rfl rfl (Nat.le_of_ble_eq_true rfl) dX6_byteRules_15 ?_
      refine g_aload_n C dX6_byteRules_18 rfl ?_
      refine g_getr (j := 54) C F6 (by rw [hw]; decide) rfl (by decide) 6 (by decide) rfl (hts (.fieldLink RX6 40 "FallBench$Trier" "trial" "LFallBench$Machine;") (by decide +kernel)) rfl (hR (42, 6, 54) (by decide)) dX6_byteRules_19 ?_
      refine g_aload_n C dX6_byteRules_22 rfl ?_
      refine g_aload_n C dX6_byteRules_23 rfl ?_
      refine g_getr (j := 47) C F6 (by rw [hw]; decide) rfl (by decide) 4 (by decide) rfl (hts (.fieldLink RX6 30 "FallBench$Trier" "changed" "LFallBench$Row;") (by decide +kernel)) rfl (hR (42, 4, 47) (by decide)) dX6_byteRules_24 ?_
      refine g_callVf C hts V (i := 54) (gX6_byteRules_X0_runWhole) rfl hdX0_runWhole (by decide) (c_X0_runWhole m54 hp r47 (okP_of hP0 hL)) (by rw [hw]; decide) rfl (by decide) rfl rfl (Nat.le_of_ble_eq_true rfl) dX6_byteRules_27 ?_
      refine g_aload_n C dX6_byteRules_30 rfl ?_
      refine g_getr (j := 54) C F6 (by rw [hw]; decide) rfl (by decide) 6 (by decide) rfl (hts (.fieldLink RX6 40 "FallBench$Trier" "trial" "LFallBench$Machine;") (by decide +kernel)) rfl (hR (42, 6, 54) (by decide)) dX6_byteRules_31 ?_
      refine g_geti (v := RUN P (I.set k (nI j)) 0 7) C F0 (by rw [hw]; decide) rfl (by decide) 7 (by decide) rfl (hts (.fieldLink RX6 81 "FallBench$Machine" "ended" "I") (by decide +kernel)) rfl (hr.1 7 (by decide) (by decide)) dX6_byteRules_34 ?_
      refine g_aload_n C dX6_byteRules_37 rfl ?_
      refine g_getr (j := 49) C F6 (by rw [hw]; decide) rfl (by decide) 5 (by decide) rfl (hts (.fieldLink RX6 36 "FallBench$Trier" "asItIs" "LFallBench$Machine;") (by decide +kernel)) rfl (hR (42, 5, 49) (by decide)) dX6_byteRules_38 ?_
      refine g_geti (v := e) C F0 (by rw [hw]; decide) rfl (by decide) 7 (by decide) rfl (hts (.fieldLink RX6 81 "FallBench$Machine" "ended" "I") (by decide +kernel)) rfl (by rw [m_run_out (by omega), up2_n1 _ _ (by decide), hF0 49 7 (by decide) (by decide)]; exact he9) dX6_byteRules_41 ?_
      refine g_icmp_ne (tgt := 83) C dX6_byteRules_44 (by decide) (fun c44 => ?_) (fun c44 => ?_)
      · refine g_iinc (v := nI (j + 1)) C V.2.1 dX6_byteRules_83 rfl (nI_succ j).symm (by decide) rfl ?_
        refine g_goto (tgt := 2) C dX6_byteRules_86 (by decide) ?_
        exact ih (j + 1) _ _ (by omega) hF1 hR1 hx1 (by rw [hfd_s hv, if_neg (fun z => c44 z.1)])
      · refine g_aload_n C dX6_byteRules_47 rfl ?_
        refine g_getr (j := 54) C F6 (by rw [hw]; decide) rfl (by decide) 6 (by decide) rfl (hts (.fieldLink RX6 40 "FallBench$Trier" "trial" "LFallBench$Machine;") (by decide +kernel)) rfl (hR (42, 6, 54) (by decide)) dX6_byteRules_48 ?_
        refine g_geti (v := RUN P (I.set k (nI j)) 0 8) C F0 (by rw [hw]; decide) rfl (by decide) 8 (by decide) rfl (hts (.fieldLink RX6 96 "FallBench$Machine" "endAct" "I") (by decide +kernel)) rfl (hr.1 8 (by decide) (by decide)) dX6_byteRules_51 ?_
        refine g_aload_n C dX6_byteRules_54 rfl ?_
        refine g_getr (j := 49) C F6 (by rw [hw]; decide) rfl (by decide) 5 (by decide) rfl (hts (.fieldLink RX6 36 "FallBench$Trier" "asItIs" "LFallBench$Machine;") (by decide +kernel)) rfl (hR (42, 5, 49) (by decide)) dX6_byteRules_55 ?_
        refine g_geti (v := a) C F0 (by rw [hw]; decide) rfl (by decide) 8 (by decide) rfl (hts (.fieldLink RX6 96 "FallBench$Machine" "endAct" "I") (by decide +kernel)) rfl (by rw [m_run_out (by omega), up2_n1 _ _ (by decide), hF0 49 8 (by decide) (by decide)]; exact ha9) dX6_byteRules_58 ?_
        refine g_icmp_ne (tgt := 83) C dX6_byteRules_61 (by decide) (fun c61 => ?_) (fun c61 => ?_)
        · refine g_iinc (v := nI (j + 1)) C V.2.1 dX6_byteRules_83 rfl (nI_succ j).symm (by decide) rfl ?_
          refine g_goto (tgt := 2) C dX6_byteRules_86 (by decide) ?_
          exact ih (j + 1) _ _ (by omega) hF1 hR1 hx1 (by rw [hfd_s hv, if_neg (fun z => c61 z.2.1)])
        · refine g_aload_n C dX6_byteRules_64 rfl ?_
          refine g_getr (j := 54) C F6 (by rw [hw]; decide) rfl (by decide) 6 (by decide) rfl (hts (.fieldLink RX6 40 "FallBench$Trier" "trial" "LFallBench$Machine;") (by decide +kernel)) rfl (hR (42, 6, 54) (by decide)) dX6_byteRules_65 ?_
          refine g_geti (v := RUN P (I.set k (nI j)) 0 9) C F0 (by rw [hw]; decide) rfl (by decide) 9 (by decide) rfl (hts (.fieldLink RX6 99 "FallBench$Machine" "wrong" "I") (by decide +kernel)) rfl (hr.1 9 (by decide) (by decide)) dX6_byteRules_68 ?_
          refine g_aload_n C dX6_byteRules_71 rfl ?_
          refine g_getr (j := 49) C F6 (by rw [hw]; decide) rfl (by decide) 5 (by decide) rfl (hts (.fieldLink RX6 36 "FallBench$Trier" "asItIs" "LFallBench$Machine;") (by decide +kernel)) rfl (hR (42, 5, 49) (by decide)) dX6_byteRules_72 ?_
          refine g_geti (v := x) C F0 (by rw [hw]; decide) rfl (by decide) 9 (by decide) rfl (hts (.fieldLink RX6 99 "FallBench$Machine" "wrong" "I") (by decide +kernel)) rfl (by rw [m_run_out (by omega), up2_n1 _ _ (by decide), hF0 49 9 (by decide) (by decide)]; exact hx9) dX6_byteRules_75 ?_
          refine g_icmp_eq (tgt := 83) C dX6_byteRules_78 (by decide) (fun c78 => ?_) (fun c78 => ?_)
          · refine g_iinc (v := nI (j + 1)) C V.2.1 dX6_byteRules_83 rfl (nI_succ j).symm (by decide) rfl ?_
            refine g_goto (tgt := 2) C dX6_byteRules_86 (by decide) ?_
            exact ih (j + 1) _ _ (by omega) hF1 hR1 hx1 (by rw [hfd_s hv, if_neg (fun z => z.2.2 c78)])
          · refine g_iconst (v := 1) C dX6_byteRules_81 (by decide) ?_
            exact g_zret C Rr rfl ⟨rfl, ⟨by rw [hfd_up (n := j + 1) (h := j) (by rw [hfd_s hv, if_pos ⟨c44, c61, c78⟩]) 256 (by omega)]; rfl, rfl, rfl, _, hR1, hx1, hF1⟩⟩ dX6_byteRules_82
  refine g_iconst (v := 0) C dX6_byteRules_0 (by decide) ?_
  refine g_istore_n C V.2.1 dX6_byteRules_1 (by decide) rfl ?_
  exact loop 256 0 M I (by decide) (tF.rf M) hI (eqx.rf I k) rfl

set_option maxHeartbeats 4000000 in
set_option maxRecDepth 100000 in
theorem c_X6_leastThatEndsWell {l : Launch} {D : va_G} {w : gw} {M : Nat → Nat → Int32} {J : Nat → Nat → Int64} {R : Nat → Nat → Option Nat} (hw : w.1 = 166) (hR : LayC R) {p k : Nat} {P : List act4} {I : List Int32} (hp : isProg w R p) (hpa : p + 4 < 43 ∨ 58 < p) (hP : progIs M p P) (hL : okL P) (hI : rowIs M 47 I) (hk : k < I.length) : Ct l yX6_leastThatEndsWell wsX6_leastThatEndsWell ({ frames := 4, cells := 0, slots := 0, locals := 97 } : Room) D w [.ref (w.2.1 42), .ref (w.2.1 p), .int (nI k)] (M, J, R) (fun v u => v = some (.int (optI (hfd (wlB P I k) 256))) ∧ u.2.1 = J ∧ u.2.2 = R ∧ ∃ I0, rowIs u.1 47 I0 ∧ eqx I0 I k ∧ tF M u.1) := by
  obtain ⟨p_hi4, p_k, p_k1, p_k2, p_k3, p_k4, p_l1, p_l2, p_l3, p_l4, p_r0, p_r1, p_r2, p_r3⟩ := id hp
  have p_hi : p < w.1 := by omega
  have p_hi1 : p + 1 < w.1 := by omega
  have p_hi2 : p + 2 < w.1 := by omega
  have p_hi3 : p + 3 < w.1 := by omega
  have r47 := row_47 hw hR
  have m54 := mach_54 hw hR
  have hl24 : I.length ≤ 24 := hI.1
  refine Cg.of (own := RX6) (cc := cX6_leastThatEndsWell) (maxL := 4) (ret := (some .int)) 1 (by decide) rfl rfl (Nat.le_of_ble_eq_true rfl) (fun X C hts V Rr => ?_)
  have F6 : FW X 6 := fun q h => hts q (List.mem_cons_of_mem _ (List.mem_append_left _ (List.mem_append_left _ (List.mem_append_left _ (List.mem_append_right _ h)))))
  have F0 : FW X 0 := fun q h => hts q (List.mem_cons_of_mem _ (List.mem_append_left _ (List.mem_append_left _ (List.mem_append_right _ h))))
  have F3 : FW X 3 := fun q h => hts q (List.mem_cons_of_mem _ (List.mem_append_left _ (List.mem_append_right _ h)))
  have F2 : FW X 2 := fun q h => hts q (List.mem_cons_of_mem _ (List.mem_append_right _ h))
  show Gj X 0 0 w M J R 0 [some (.ref (w.2.1 42)), some (.ref (w.2.1 p)), some (.int (nI k)), none] []
  have loop : ∀ dd j M0 I0, j + dd = 256 → tF M M0 → rowIs M0 47 I0 → eqx I0 I k → hfd (wlB P I k) j = none → Gj X 0 0 w M0 J R 2 [some (.ref (w.2.1 42)), some (.ref (w.2.1 p)), some (.int (nI k)), some (.int (nI j))] [] := by
    intro dd
    induction dd with
    | zero =>
      intro j M0 I0 hj hF0 hI0 hx hv
      obtain rfl : j = 256 := by omega
      refine g_iload_n C dX6_leastThatEndsWell_2 rfl ?_
      refine g_sipush (v := 256) C dX6_leastThatEndsWell_3 (by decide) ?_
      refine g_icmp_ge (tgt := 48) C dX6_leastThatEndsWell_6 (by decide) (fun c6 => ?_) (fun c6 => absurd c6 (not_not_intro (by decide)))
      refine g_iconst (v := (-1)) C dX6_leastThatEndsWell_48 (by decide) ?_
      exact g_iret C Rr ⟨rfl, ⟨by rw [hv]; rfl, rfl, rfl, I0, hI0, hx, hF0⟩⟩ dX6_leastThatEndsWell_49
    | succ dd ih =>
      intro j M0 I0 hj hF0 hI0 hx hv
      have hl0 : I0.length = I.length := hx.1
      have hR0 : rowIs (up2 M0 48 k (nI j)) 47 (I0.set k (nI j)) := hI0.set (by omega) _
      have hP0 : progIs (up2 M0 48 k (nI j)) p P := (hP.o (M' := M0) (fun x y h1 h2 => hF0 x y (by omega) (by omega))).o (fun x y h1 h2 => up2_n1 _ _ (by omega))
      have hr := run_is m54 hp r47 hP0 hR0 hL
      rw [hx.2 (nI j)] at hr hR0
      have hF1 : tF M (m_run (up2 M0 48 k (nI j)) 54 p 47) := fun x y h1 h2 => by rw [m_run_out (by omega), up2_n1 _ _ h1]; exact hF0 x y h1 h2
      have hR1 : rowIs (m_run (up2 M0 48 k (nI j)) 54 p 47) 47 (I.set k (nI j)) := hR0.o (fun x y h1 h2 => m_run_out (by omega))
      have hx1 : eqx (I.set k (nI j)) I k := (eqx.rf I k).set _
      refine g_iload_n C dX6_leastThatEndsWell_2 rfl ?_
      refine g_sipush (v := 256) C dX6_leastThatEndsWell_3 (by decide) ?_
      refine g_icmp_ge (tgt := 48) C dX6_leastThatEndsWell_6 (by decide) (fun c6 => absurd c6 (fun y => absurd ((nI_leI (a := 256) (b := j) (by decide) (by omega)).mp y) (by omega))) (fun c6 => ?_)
      refine g_aload_n C dX6_leastThatEndsWell_9 rfl ?_
      refine g_getr (j := 47) C F6 (by rw [hw]; decide) rfl (by decide) 4 (by decide) rfl (hts (.fieldLink RX6 30 "FallBench$Trier" "changed" "LFallBench$Row;") (by decide +kernel)) rfl (hR (42, 4, 47) (by decide)) dX6_leastThatEndsWell_10 ?_
      refine g_iload_n C dX6_leastThatEndsWell_13 rfl ?_
      refine g_iload_n C dX6_leastThatEndsWell_14 rfl ?_
      refine g_callVf C hts V (i := 47) (gX6_leastThatEndsWell_X3_setByte) rfl hdX3_setByte (by decide) (Cf.to (c_X3_setByte r47) rfl (b_set_n hI0 (show k < I0.length by omega) _)) (by rw [hw]; decide) rfl (by decide) rfl rfl (Nat.le_of_ble_eq_true rfl) dX6_leastThatEndsWell_15 ?_
      refine g_aload_n C dX6_leastThatEndsWell_18 rfl ?_
      refine g_getr (j := 54) C F6 (by rw [hw]; decide) rfl (by decide) 6 (by decide) rfl (hts (.fieldLink RX6 40 "FallBench$Trier" "trial" "LFallBench$Machine;") (by decide +kernel)) rfl (hR (42, 6, 54) (by decide)) dX6_leastThatEndsWell_19 ?_
      refine g_aload_n C dX6_leastThatEndsWell_22 rfl ?_
      refine g_aload_n C dX6_leastThatEndsWell_23 rfl ?_
      refine g_getr (j := 47) C F6 (by rw [hw]; decide) rfl (by decide) 4 (by decide) rfl (hts (.fieldLink RX6 30 "FallBench$Trier" "changed" "LFallBench$Row;") (by decide +kernel)) rfl (hR (42, 4, 47) (by decide)) dX6_leastThatEndsWell_24 ?_
      refine g_callVf C hts V (i := 54) (gX6_leastThatEndsWell_X0_runWhole) rfl hdX0_runWhole (by decide) (c_X0_runWhole m54 hp r47 (okP_of hP0 hL)) (by rw [hw]; decide) rfl (by decide) rfl rfl (Nat.le_of_ble_eq_true rfl) dX6_leastThatEndsWell_27 ?_
      refine g_aload_n C dX6_leastThatEndsWell_30 rfl ?_
      refine g_getr (j := 54) C F6 (by rw [hw]; decide) rfl (by decide) 6 (by decide) rfl (hts (.fieldLink RX6 40 "FallBench$Trier" "trial" "LFallBench$Machine;") (by decide +kernel)) rfl (hR (42, 6, 54) (by decide)) dX6_leastThatEndsWell_31 ?_
      refine g_geti (v := RUN P (I.set k (nI j)) 0 7) C F0 (by rw [hw]; decide) rfl (by decide) 7 (by decide) rfl (hts (.fieldLink RX6 81 "FallBench$Machine" "ended" "I") (by decide +kernel)) rfl (hr.1 7 (by decide) (by decide)) dX6_leastThatEndsWell_34 ?_
      refine g_if_ne (tgt := 42) C dX6_leastThatEndsWell_37 (by decide) (fun c37 => ?_) (fun c37 => ?_)
      · refine g_iinc (v := nI (j + 1)) C V.2.1 dX6_leastThatEndsWell_42 rfl (nI_succ j).symm (by decide) rfl ?_
        refine g_goto (tgt := 2) C dX6_leastThatEndsWell_45 (by decide) ?_
        exact ih (j + 1) _ _ (by omega) hF1 hR1 hx1 (by rw [hfd_s hv, if_neg (c37)])
      · refine g_iload_n C dX6_leastThatEndsWell_40 rfl ?_
        exact g_iret C Rr ⟨rfl, ⟨by rw [hfd_up (n := j + 1) (h := j) (by rw [hfd_s hv, if_pos c37]) 256 (by omega)]; rfl, rfl, rfl, _, hR1, hx1, hF1⟩⟩ dX6_leastThatEndsWell_41
  refine g_iconst (v := 0) C dX6_leastThatEndsWell_0 (by decide) ?_
  refine g_istore_n C V.2.1 dX6_leastThatEndsWell_1 (by decide) rfl ?_
  exact loop 256 0 M I (by decide) (tF.rf M) hI (eqx.rf I k) rfl

theorem k_one_5 {P : List act4} {I : List Int32} {K : Nat → Nat → Int32} {c : Nat} {y : Int32} (h : kI K y P.length I.length c) (hB : okI I) : ∃ d, d ≤ I.length ∧ k_one P I K 0 5 = nI d := by
  obtain ⟨h7, h8, h6, h12, ⟨rc, hrc, h5⟩, -⟩ := h
  have hl := hB.1
  have hf : ∀ Z : Nat → Nat → Int32, m_fin Z 0 0 5 = Z 0 5 := fun Z => by
    by_cases e : Z 0 8 = -1
    · rw [m_fin_p e, up2_n2 _ _ (by decide)]
    · rw [m_fin_n e]
  have u : ∀ (Z : Nat → Nat → Int32) (k : Nat) (v : Int32), k ≠ 5 → up2 Z 0 k v 0 5 = Z 0 5 := fun Z k v hk => up2_n2 _ _ (Ne.symm hk)
  have hsw : ∀ (x : act4) (a cnt : Int32) (Z : Nat → Nat → Int32), Z 0 5 = nI rc → ∃ d, d ≤ I.length ∧ k_sw Z x a I cnt 0 5 = nI d := by
    intro x a cnt Z hz
    obtain ⟨k, r, s, n⟩ := x
    unfold k_sw
    dsimp only
    have same : ∀ {W : Nat → Nat → Int32}, W 0 5 = Z 0 5 → ∃ d, d ≤ I.length ∧ W 0 5 = nI d := fun e => ⟨rc, hrc, e.trans hz⟩
    have ba : ∀ how x : Int32, m_bad Z 0 how a x 0 5 = Z 0 5 := fun how x => by simp [m_bad, up2]
    by_cases e0 : k = 0
    · rw [if_pos e0, hz, m_rd]
      rcases Nat.lt_or_ge rc I.length with g | g
      · have hin : inAt I (nI rc) = I.getD rc 0 := by
          rw [inAt, if_neg (nI_pos (by omega)), if_neg (nI_ge g (by omega)), nI_clamp (by omega)]
        rw [hin, if_neg (fun q => (hB.2 rc g).1 (by rw [q]; decide)), up2_eq, hz]
        exact ⟨rc + 1, by omega, (nI_succ rc).symm⟩
      · have hin : inAt I (nI rc) = -1 := by
          rw [inAt, if_neg (nI_pos (by omega)), if_pos (nI_le g (by omega))]
        rw [hin, if_pos rfl]; exact same (m_make_0 Z 0 _ _ _ _ 5)
    rw [if_neg e0]
    by_cases e1 : k = 1
    · rw [if_pos e1]; exact same (m_make_0 Z 0 _ _ _ _ 5)
    rw [if_neg e1]
    by_cases e2 : k = 2
    · rw [if_pos e2]; exact same (m_carry_0 _ _ _ 5)
    rw [if_neg e2]
    by_cases e3 : k = 3
    · rw [if_pos e3]; exact same (m_make_0 Z 0 _ _ _ _ 5)
    rw [if_neg e3]
    by_cases e4 : k = 4
    · rw [if_pos e4]; exact same (m_make_0 Z 0 _ _ _ _ 5)
    rw [if_neg e4]
    by_cases e5 : k = 5
    · rw [if_pos e5]; exact same (m_make_0 Z 0 _ _ _ _ 5)
    rw [if_neg e5]
    by_cases e6 : k = 6
    · rw [if_pos e6, m_load]; split
      · exact same (ba _ _)
      · exact same (m_carry_0 _ _ _ 5)
    rw [if_neg e6]
    by_cases e7 : k = 7
    · rw [if_pos e7, m_store]; split
      · exact same (ba _ _)
      · exact same (m_carry_0 _ _ _ 5)
    rw [if_neg e7]
    have gi : ∀ v, m_goIf Z 0 v n 0 5 = Z 0 5 := fun v => by
      rw [m_goIf]; split
      · rfl
      · exact u _ _ _ (by decide)
    by_cases e8 : k = 8
    · rw [if_pos e8]; exact same (gi _)
    rw [if_neg e8]
    by_cases e9 : k = 9
    · rw [if_pos e9]; exact same (gi _)
    rw [if_neg e9]
    by_cases e10 : k = 10
    · rw [if_pos e10]; exact same (u _ _ _ (by decide))
    rw [if_neg e10]
    by_cases e11 : k = 11
    · rw [if_pos e11, m_jump]; split
      · exact same (ba _ _)
      · split
        · exact same (ba _ _)
        · exact same (u _ _ _ (by decide))
    rw [if_neg e11]
    by_cases e12 : k = 12
    · rw [if_pos e12, m_tell]; refine same ?_
      rw [u _ _ _ (by decide)]; split
      · rfl
      · exact up2_n1 _ _ (by decide)
    rw [if_neg e12]; exact same (u _ _ _ (by decide))
  unfold k_one
  by_cases c0 : K 0 12 < 0
  · rw [if_pos c0]; exact ⟨rc, hrc, by rw [u _ _ _ (by decide)]; exact h5⟩
  rw [if_neg c0]
  by_cases c1 : K 0 12 < nI P.length
  · rw [if_pos c1]
    by_cases c2 : K 0 6 < 1000
    · rw [if_pos c2, hf]; exact hsw _ _ _ _ (by rw [u _ _ _ (by decide)]; exact h5)
    · rw [if_neg c2]; exact ⟨rc, hrc, by rw [u _ _ _ (by decide)]; exact h5⟩
  · rw [if_neg c1]; exact ⟨rc, hrc, by rw [u _ _ _ (by decide)]; exact h5⟩

def rbits (f : Nat → Bool) : Nat → Int32
  | 0 => 0
  | n + 1 => if f n = true then rbits f n ||| (1 <<< (nI n &&& 31)) else rbits f n
/-- cells that the trier's own work changes -/
def uF (M M' : Nat → Nat → Int32) : Prop := ∀ x y, ¬ (47 ≤ x ∧ x ≤ 58) → M' x y = M x y
theorem set_getD9 (I : List Int32) {k : Nat} (h : k < I.length) : I.set k (I.getD k 0) = I := by
  apply List.ext_getElem?
  intro j
  by_cases e : j = k
  · subst e; rw [List.getElem?_set_self h]; simp [List.getD, List.getElem?_eq_getElem h]
  · rw [List.getElem?_set_ne (fun q => e q.symm)]
theorem row_cp {M : Nat → Nat → Int32} {r q : Nat} {I : List Int32} (h : rowIs M q I) (hl : I.length ≤ ln (r + 1)) : rowIs (b_cp M r q I.length) r I := by
  refine ⟨hl, by simp [b_cp], fun k hk => ?_⟩
  simp only [b_cp]
  rw [if_neg (by omega), if_pos ⟨trivial, hk⟩]
  exact h.2.2 k hk
theorem b_cp_o (M : Nat → Nat → Int32) {r q n a b : Nat} (h : a ≠ r) (h2 : a ≠ r + 1) : b_cp M r q n a b = M a b := by
  simp only [b_cp]; rw [if_neg (fun z => h z.1), if_neg (fun z => h2 z.1)]
/-- how many bytes a RUN has read -/
theorem run_read (P : List act4) (I : List Int32) (hL : okL P) (hB : okI I) : ∃ c, c ≤ I.length ∧ RUN P I 0 5 = nI c := by
  have h : ∀ (n c : Nat) (K : Nat → Nat → Int32), c + n = 1001 → c ≤ 1000 → kI K (nI c) P.length I.length c → ∃ d, d ≤ I.length ∧ k_it P I n K 0 5 = nI d := by
    intro n
    induction n with
    | zero => intro c K h1 h2; omega
    | succ n ih =>
      intro c K h1 h2 hK
      unfold k_it
      rw [if_pos hK.1]
      by_cases e : k_one P I K 0 7 = -1
      · obtain ⟨hc, hK2⟩ := hK.one h2 hB hL e
        exact ih (c + 1) _ (by omega) (by omega) hK2
      · have e2 : k_it P I n (k_one P I K) = k_one P I K := by
          match n with
          | 0 => rfl
          | n + 1 => simp only [k_it, if_neg e]
        rw [e2]
        exact k_one_5 hK hB
  exact h 1001 0 k_0 (by decide) (by decide) (k_0_I P I)
