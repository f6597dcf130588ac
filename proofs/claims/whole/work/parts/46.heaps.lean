/-! HEAPS: the class's sorter -/
def hfd (p : Nat → Prop) [DecidablePred p] : Nat → Option Nat
  | 0 => none
  | n + 1 => match hfd p n with
    | some h => some h
    | none => if p n then some n else none
theorem hfd_s {p : Nat → Prop} [DecidablePred p] {n : Nat} (h : hfd p n = none) : hfd p (n + 1) = if p n then some n else none := by
  simp only [hfd, h]
theorem hfd_up {p : Nat → Prop} [DecidablePred p] {n h : Nat} (e : hfd p n = some h) : ∀ m, n ≤ m → hfd p m = some h := by
  intro m
  induction m with
  | zero => intro hm; obtain rfl : n = 0 := by omega
            exact e
  | succ m ih =>
    intro hm
    rcases Nat.lt_or_ge m n with q | q
    · obtain rfl : n = m + 1 := by omega
      exact e
    · simp only [hfd, ih q]
theorem hfd_spec {p : Nat → Prop} [DecidablePred p] {n h : Nat} (e : hfd p n = some h) : h < n ∧ p h := by
  induction n with
  | zero => simp [hfd] at e
  | succ n ih =>
    simp only [hfd] at e
    split at e
    · rename_i h2 e2
      have := Option.some.inj e; subst this
      exact ⟨by have := (ih e2).1; omega, (ih e2).2⟩
    · split at e
      · rename_i hp; have := Option.some.inj e; subst this; exact ⟨by omega, hp⟩
      · cases e
theorem hfd_none {p : Nat → Prop} [DecidablePred p] {n : Nat} (e : hfd p n = none) : ∀ h, h < n → ¬ p h := by
  induction n with
  | zero => intro h hh; omega
  | succ n ih =>
    intro h hh
    simp only [hfd] at e
    split at e
    · cases e
    · rename_i e2
      split at e
      · cases e
      · rename_i hp
        rcases Nat.lt_or_ge h n with q | q
        · exact ih e2 h q
        · obtain rfl : h = n := by omega
          exact hp
theorem hfd_congr {p q : Nat → Prop} [DecidablePred p] [DecidablePred q] (n : Nat) (h : ∀ k, k < n → (p k ↔ q k)) : hfd p n = hfd q n := by
  induction n with
  | zero => rfl
  | succ n ih =>
    simp only [hfd, ih (fun k hk => h k (by omega))]
    split
    · rfl
    · by_cases hp : p n
      · rw [if_pos hp, if_pos ((h n (by omega)).mp hp)]
      · rw [if_neg hp, if_neg (fun z => hp ((h n (by omega)).mpr z))]
/-- the heap of the sorter that is like the machine's end -/
abbrev sLike (M : Nat → Nat → Int32) (m : Nat) : Nat → Prop := fun h => M 38 h = M m 7 ∧ M 39 h = M m 8 ∧ M 40 h = M m 10
def optI (o : Option Nat) : Int32 := match o with
  | some h => nI h
  | none => -1

theorem hdX4_sortIn : yX4_sortIn.cls = cR 4 ∧ yX4_sortIn.cls ≠ "java/lang/invoke/MethodHandle" ∧ yX4_sortIn.cls ≠ "java/lang/invoke/VarHandle" ∧ (parseMethodDescriptor yX4_sortIn.desc).map (fun d => d.parameters.length) = some 2 := by decide +kernel

theorem hdX4_heapLike : yX4_heapLike.cls = cR 4 ∧ yX4_heapLike.cls ≠ "java/lang/invoke/MethodHandle" ∧ yX4_heapLike.cls ≠ "java/lang/invoke/VarHandle" ∧ (parseMethodDescriptor yX4_heapLike.desc).map (fun d => d.parameters.length) = some 1 := by decide +kernel

theorem hdX4_newHeap : yX4_newHeap.cls = cR 4 ∧ yX4_newHeap.cls ≠ "java/lang/invoke/MethodHandle" ∧ yX4_newHeap.cls ≠ "java/lang/invoke/VarHandle" ∧ (parseMethodDescriptor yX4_newHeap.desc).map (fun d => d.parameters.length) = some 2 := by decide +kernel

set_option maxHeartbeats 4000000 in
set_option maxRecDepth 100000 in
theorem c_X4_heapLike {l : Launch} {D : va_G} {w : gw} {M : Nat → Nat → Int32} {J : Nat → Nat → Int64} {R : Nat → Nat → Option Nat} (hw : w.1 = 166) (hR : LayC R) {m c : Nat} (hm : isMach w R m) (hc : M 35 6 = nI c) (hc2 : c ≤ 30) : Cf l yX4_heapLike wsX4_heapLike ({ frames := 0, cells := 0, slots := 0, locals := 0 } : Room) D w [.ref (w.2.1 35), .ref (w.2.1 m)] M J R (some (.int (optI (hfd (sLike M m) c)))) M J R := by
  obtain ⟨m_hi4, m_k, m_k1, m_k2, m_k3, m_k4, m_l1, m_l2, m_l3, m_l4, m_r0, m_r1, m_r2, m_r3⟩ := id hm
  have m_hi : m < w.1 := by omega
  have m_hi1 : m + 1 < w.1 := by omega
  have m_hi2 : m + 2 < w.1 := by omega
  have m_hi3 : m + 3 < w.1 := by omega
  refine Cg.of (own := RX4) (cc := cX4_heapLike) (maxL := 3) (ret := (some .int)) 1 (by decide) rfl rfl (Nat.le_of_ble_eq_true rfl) (fun X C hts V Rr => ?_)
  have F4 : FW X 4 := fun q h => hts q (List.mem_cons_of_mem _ (List.mem_append_left _ (List.mem_append_right _ h)))
  have F0 : FW X 0 := fun q h => hts q (List.mem_cons_of_mem _ (List.mem_append_right _ h))
  show Gj X 0 0 w M J R 0 [some (.ref (w.2.1 35)), some (.ref (w.2.1 m)), none] []
  have loop : ∀ dd j, j + dd = c → hfd (sLike M m) j = none → Gj X 0 0 w M J R 2 [some (.ref (w.2.1 35)), some (.ref (w.2.1 m)), some (.int (nI j))] [] := by
    intro dd
    induction dd with
    | zero =>
      intro j hj hv
      obtain rfl : j = c := by omega
      refine g_iload_n C dX4_heapLike_2 rfl ?_
      refine g_aload_n C dX4_heapLike_3 rfl ?_
      refine g_geti (v := nI j) C F4 (by rw [hw]; decide) rfl (by decide) 6 (by decide) rfl (hts (.fieldLink RX4 30 "FallBench$Sorter" "count" "I") (by decide +kernel)) rfl hc dX4_heapLike_4 ?_
      refine g_icmp_ge (tgt := 57) C dX4_heapLike_7 (by decide) (fun c7 => ?_) (fun c7 => absurd c7 (not_not_intro (nI_le (Nat.le_refl _) (by omega))))
      refine g_iconst (v := (-1)) C dX4_heapLike_57 (by decide) ?_
      exact g_iret C Rr ⟨rfl, ⟨by rw [hv]; rfl, rfl⟩⟩ dX4_heapLike_58
    | succ dd ih =>
      intro j hj hv
      refine g_iload_n C dX4_heapLike_2 rfl ?_
      refine g_aload_n C dX4_heapLike_3 rfl ?_
      refine g_geti (v := nI c) C F4 (by rw [hw]; decide) rfl (by decide) 6 (by decide) rfl (hts (.fieldLink RX4 30 "FallBench$Sorter" "count" "I") (by decide +kernel)) rfl hc dX4_heapLike_4 ?_
      refine g_icmp_ge (tgt := 57) C dX4_heapLike_7 (by decide) (fun c7 => absurd c7 (nI_ge (by omega) (by omega))) (fun c7 => ?_)
      refine g_aload_n C dX4_heapLike_10 rfl ?_
      refine g_getr (j := 38) C F4 (by rw [hw]; decide) rfl (by decide) 2 (by decide) rfl (hts (.fieldLink RX4 18 "FallBench$Sorter" "ends" "[I") (by decide +kernel)) rfl (hR (35, 2, 38) (by decide)) dX4_heapLike_11 ?_
      refine g_iload_n C dX4_heapLike_14 rfl ?_
      refine g_iald (v := M 38 j) C (by rw [hw]; decide) rfl (vp_in_nI (N := 30) (by omega) (by decide)) (by rw [nI_clamp (by omega)]) dX4_heapLike_15 ?_
      refine g_aload_n C dX4_heapLike_16 rfl ?_
      refine g_geti C F0 m_hi m_k (by decide) 7 (by decide) rfl (hts (.fieldLink RX4 34 "FallBench$Machine" "ended" "I") (by decide +kernel)) rfl rfl dX4_heapLike_17 ?_
      refine g_icmp_ne (tgt := 51) C dX4_heapLike_20 (by decide) (fun c20 => ?_) (fun c20 => ?_)
      · refine g_iinc (v := nI (j + 1)) C V.2.1 dX4_heapLike_51 rfl (nI_succ j).symm (by decide) rfl ?_
        refine g_goto (tgt := 2) C dX4_heapLike_54 (by decide) ?_
        exact ih (j + 1) (by omega) (by rw [hfd_s hv, if_neg (fun z => c20 z.1)])
      · refine g_aload_n C dX4_heapLike_23 rfl ?_
        refine g_getr (j := 39) C F4 (by rw [hw]; decide) rfl (by decide) 3 (by decide) rfl (hts (.fieldLink RX4 21 "FallBench$Sorter" "acts" "[I") (by decide +kernel)) rfl (hR (35, 3, 39) (by decide)) dX4_heapLike_24 ?_
        refine g_iload_n C dX4_heapLike_27 rfl ?_
        refine g_iald (v := M 39 j) C (by rw [hw]; decide) rfl (vp_in_nI (N := 30) (by omega) (by decide)) (by rw [nI_clamp (by omega)]) dX4_heapLike_28 ?_
        refine g_aload_n C dX4_heapLike_29 rfl ?_
        refine g_geti C F0 m_hi m_k (by decide) 8 (by decide) rfl (hts (.fieldLink RX4 47 "FallBench$Machine" "endAct" "I") (by decide +kernel)) rfl rfl dX4_heapLike_30 ?_
        refine g_icmp_ne (tgt := 51) C dX4_heapLike_33 (by decide) (fun c33 => ?_) (fun c33 => ?_)
        · refine g_iinc (v := nI (j + 1)) C V.2.1 dX4_heapLike_51 rfl (nI_succ j).symm (by decide) rfl ?_
          refine g_goto (tgt := 2) C dX4_heapLike_54 (by decide) ?_
          exact ih (j + 1) (by omega) (by rw [hfd_s hv, if_neg (fun z => c33 z.2.1)])
        · refine g_aload_n C dX4_heapLike_36 rfl ?_
          refine g_getr (j := 40) C F4 (by rw [hw]; decide) rfl (by decide) 4 (by decide) rfl (hts (.fieldLink RX4 24 "FallBench$Sorter" "makers" "[I") (by decide +kernel)) rfl (hR (35, 4, 40) (by decide)) dX4_heapLike_37 ?_
          refine g_iload_n C dX4_heapLike_40 rfl ?_
          refine g_iald (v := M 40 j) C (by rw [hw]; decide) rfl (vp_in_nI (N := 30) (by omega) (by decide)) (by rw [nI_clamp (by omega)]) dX4_heapLike_41 ?_
          refine g_aload_n C dX4_heapLike_42 rfl ?_
          refine g_geti C F0 m_hi m_k (by decide) 10 (by decide) rfl (hts (.fieldLink RX4 50 "FallBench$Machine" "wrongMaker" "I") (by decide +kernel)) rfl rfl dX4_heapLike_43 ?_
          refine g_icmp_ne (tgt := 51) C dX4_heapLike_46 (by decide) (fun c46 => ?_) (fun c46 => ?_)
          · refine g_iinc (v := nI (j + 1)) C V.2.1 dX4_heapLike_51 rfl (nI_succ j).symm (by decide) rfl ?_
            refine g_goto (tgt := 2) C dX4_heapLike_54 (by decide) ?_
            exact ih (j + 1) (by omega) (by rw [hfd_s hv, if_neg (fun z => c46 z.2.2)])
          · refine g_iload_n C dX4_heapLike_49 rfl ?_
            exact g_iret C Rr ⟨rfl, ⟨by rw [hfd_up (n := j + 1) (h := j) (by rw [hfd_s hv, if_pos ⟨c20, c33, c46⟩]) c (by omega)]; rfl, rfl⟩⟩ dX4_heapLike_50
  refine g_iconst (v := 0) C dX4_heapLike_0 (by decide) ?_
  refine g_istore_n C V.2.1 dX4_heapLike_1 (by decide) rfl ?_
  exact loop c 0 (by omega) rfl

def s_new (M : Nat → Nat → Int32) (m c : Nat) (i : Int32) : Nat → Nat → Int32 := up2 (up2 (up2 (up2 (up2 (up2 M 36 c i) 37 c 0) 38 c (M m 7)) 39 c (M m 8)) 40 c (M m 10)) 35 6 (nI c + 1)

set_option maxHeartbeats 4000000 in
set_option maxRecDepth 100000 in
theorem c_X4_newHeap {l : Launch} {D : va_G} {w : gw} {M : Nat → Nat → Int32} {J : Nat → Nat → Int64} {R : Nat → Nat → Option Nat} (hw : w.1 = 166) (hR : LayC R) {m c : Nat} {i : Int32} (hm : isMach w R m) (hc : M 35 6 = nI c) (hc2 : c < 30) : Cf l yX4_newHeap wsX4_newHeap ({ frames := 0, cells := 0, slots := 0, locals := 0 } : Room) D w [.ref (w.2.1 35), .int i, .ref (w.2.1 m)] M J R (some (.int (nI c))) (s_new M m c i) J R := by
  obtain ⟨m_hi4, m_k, m_k1, m_k2, m_k3, m_k4, m_l1, m_l2, m_l3, m_l4, m_r0, m_r1, m_r2, m_r3⟩ := id hm
  have m_hi : m < w.1 := by omega
  have m_hi1 : m + 1 < w.1 := by omega
  have m_hi2 : m + 2 < w.1 := by omega
  have m_hi3 : m + 3 < w.1 := by omega
  have n36 : m ≠ 36 := fun h => by rw [h] at m_k; cases m_k
  have n37 : m ≠ 37 := fun h => by rw [h] at m_k; cases m_k
  have n38 : m ≠ 38 := fun h => by rw [h] at m_k; cases m_k
  have n39 : m ≠ 39 := fun h => by rw [h] at m_k; cases m_k
  have n41 : m ≠ 41 := fun h => by rw [h] at m_k; cases m_k
  have n35 : m ≠ 35 := fun h => by rw [h] at m_k; cases m_k
  refine Cg.of (own := RX4) (cc := cX4_newHeap) (maxL := 3) (ret := (some .int)) 0 (by decide) rfl rfl (Nat.le_of_ble_eq_true rfl) (fun X C hts V Rr => ?_)
  have F4 : FW X 4 := fun q h => hts q (List.mem_cons_of_mem _ (List.mem_append_left _ (List.mem_append_right _ h)))
  have F0 : FW X 0 := fun q h => hts q (List.mem_cons_of_mem _ (List.mem_append_right _ h))
  show Gj X 0 0 w M J R 0 [some (.ref (w.2.1 35)), some (.int i), some (.ref (w.2.1 m))] []
  refine g_aload_n C dX4_newHeap_0 rfl ?_
  refine g_geti C F4 (by rw [hw]; decide) rfl (by decide) 6 (by decide) rfl (hts (.fieldLink RX4 30 "FallBench$Sorter" "count" "I") (by decide +kernel)) rfl rfl dX4_newHeap_1 ?_
  refine g_bipush (v := 30) C dX4_newHeap_4 (by decide) ?_
  refine g_icmp_lt (tgt := 11) C dX4_newHeap_6 (by decide) (fun c6 => ?_) (fun c6 => absurd c6 (not_not_intro (show M 35 6 < 30 by rw [hc]; exact nI_lt (b := 30) hc2 (by decide))))
  refine g_aload_n C dX4_newHeap_11 rfl ?_
  refine g_getr (j := 36) C F4 (by rw [hw]; decide) rfl (by decide) 0 (by decide) rfl (hts (.fieldLink RX4 9 "FallBench$Sorter" "leasts" "[I") (by decide +kernel)) rfl (hR (35, 0, 36) (by decide)) dX4_newHeap_12 ?_
  refine g_aload_n C dX4_newHeap_15 rfl ?_
  refine g_geti (v := nI c) C F4 (by rw [hw]; decide) rfl (by decide) 6 (by decide) rfl (hts (.fieldLink RX4 30 "FallBench$Sorter" "count" "I") (by decide +kernel)) rfl (by exact hc) dX4_newHeap_16 ?_
  refine g_iload_n C dX4_newHeap_19 rfl ?_
  refine g_iast C (by rw [hw]; decide) rfl (vp_in_nI (N := 30) hc2 (by decide)) dX4_newHeap_20 ?_
  refine g_aload_n C dX4_newHeap_21 rfl ?_
  refine g_getr (j := 37) C F4 (by rw [hw]; decide) rfl (by decide) 1 (by decide) rfl (hts (.fieldLink RX4 15 "FallBench$Sorter" "sizes" "[I") (by decide +kernel)) rfl (hR (35, 1, 37) (by decide)) dX4_newHeap_22 ?_
  refine g_aload_n C dX4_newHeap_25 rfl ?_
  refine g_geti (v := nI c) C F4 (by rw [hw]; decide) rfl (by decide) 6 (by decide) rfl (hts (.fieldLink RX4 30 "FallBench$Sorter" "count" "I") (by decide +kernel)) rfl (by rw [up2_n1 _ _ (by decide)]; exact hc) dX4_newHeap_26 ?_
  refine g_iconst (v := 0) C dX4_newHeap_29 (by decide) ?_
  refine g_iast C (by rw [hw]; decide) rfl (vp_in_nI (N := 30) hc2 (by decide)) dX4_newHeap_30 ?_
  refine g_aload_n C dX4_newHeap_31 rfl ?_
  refine g_getr (j := 38) C F4 (by rw [hw]; decide) rfl (by decide) 2 (by decide) rfl (hts (.fieldLink RX4 18 "FallBench$Sorter" "ends" "[I") (by decide +kernel)) rfl (hR (35, 2, 38) (by decide)) dX4_newHeap_32 ?_
  refine g_aload_n C dX4_newHeap_35 rfl ?_
  refine g_geti (v := nI c) C F4 (by rw [hw]; decide) rfl (by decide) 6 (by decide) rfl (hts (.fieldLink RX4 30 "FallBench$Sorter" "count" "I") (by decide +kernel)) rfl (by rw [up2_n1 _ _ (by decide), up2_n1 _ _ (by decide)]; exact hc) dX4_newHeap_36 ?_
  refine g_aload_n C dX4_newHeap_39 rfl ?_
  refine g_geti (v := M m 7) C F0 m_hi m_k (by decide) 7 (by decide) rfl (hts (.fieldLink RX4 34 "FallBench$Machine" "ended" "I") (by decide +kernel)) rfl (by rw [up2_n1 _ _ n37, up2_n1 _ _ n36]) dX4_newHeap_40 ?_
  refine g_iast C (by rw [hw]; decide) rfl (vp_in_nI (N := 30) hc2 (by decide)) dX4_newHeap_43 ?_
  refine g_aload_n C dX4_newHeap_44 rfl ?_
  refine g_getr (j := 39) C F4 (by rw [hw]; decide) rfl (by decide) 3 (by decide) rfl (hts (.fieldLink RX4 21 "FallBench$Sorter" "acts" "[I") (by decide +kernel)) rfl (hR (35, 3, 39) (by decide)) dX4_newHeap_45 ?_
  refine g_aload_n C dX4_newHeap_48 rfl ?_
  refine g_geti (v := nI c) C F4 (by rw [hw]; decide) rfl (by decide) 6 (by decide) rfl (hts (.fieldLink RX4 30 "FallBench$Sorter" "count" "I") (by decide +kernel)) rfl (by rw [up2_n1 _ _ (by decide), up2_n1 _ _ (by decide), up2_n1 _ _ (by decide)]; exact hc) dX4_newHeap_49 ?_
  refine g_aload_n C dX4_newHeap_52 rfl ?_
  refine g_geti (v := M m 8) C F0 m_hi m_k (by decide) 8 (by decide) rfl (hts (.fieldLink RX4 47 "FallBench$Machine" "endAct" "I") (by decide +kernel)) rfl (by rw [up2_n1 _ _ n38, up2_n1 _ _ n37, up2_n1 _ _ n36]) dX4_newHeap_53 ?_
  refine g_iast C (by rw [hw]; decide) rfl (vp_in_nI (N := 30) hc2 (by decide)) dX4_newHeap_56 ?_
  refine g_aload_n C dX4_newHeap_57 rfl ?_
  refine g_getr (j := 40) C F4 (by rw [hw]; decide) rfl (by decide) 4 (by decide) rfl (hts (.fieldLink RX4 24 "FallBench$Sorter" "makers" "[I") (by decide +kernel)) rfl (hR (35, 4, 40) (by decide)) dX4_newHeap_58 ?_
  refine g_aload_n C dX4_newHeap_61 rfl ?_
  refine g_geti (v := nI c) C F4 (by rw [hw]; decide) rfl (by decide) 6 (by decide) rfl (hts (.fieldLink RX4 30 "FallBench$Sorter" "count" "I") (by decide +kernel)) rfl (by rw [up2_n1 _ _ (by decide), up2_n1 _ _ (by decide), up2_n1 _ _ (by decide), up2_n1 _ _ (by decide)]; exact hc) dX4_newHeap_62 ?_
  refine g_aload_n C dX4_newHeap_65 rfl ?_
  refine g_geti (v := M m 10) C F0 m_hi m_k (by decide) 10 (by decide) rfl (hts (.fieldLink RX4 50 "FallBench$Machine" "wrongMaker" "I") (by decide +kernel)) rfl (by rw [up2_n1 _ _ n39, up2_n1 _ _ n38, up2_n1 _ _ n37, up2_n1 _ _ n36]) dX4_newHeap_66 ?_
  refine g_iast C (by rw [hw]; decide) rfl (vp_in_nI (N := 30) hc2 (by decide)) dX4_newHeap_69 ?_
  refine g_aload_n C dX4_newHeap_70 rfl ?_
  refine g_dup C dX4_newHeap_71 rfl ?_
  refine g_geti (v := nI c) C F4 (by rw [hw]; decide) rfl (by decide) 6 (by decide) rfl (hts (.fieldLink RX4 30 "FallBench$Sorter" "count" "I") (by decide +kernel)) rfl (by rw [up2_n1 _ _ (by decide), up2_n1 _ _ (by decide), up2_n1 _ _ (by decide), up2_n1 _ _ (by decide), up2_n1 _ _ (by decide)]; exact hc) dX4_newHeap_72 ?_
  refine g_iconst (v := 1) C dX4_newHeap_75 (by decide) ?_
  refine g_iadd C dX4_newHeap_76 ?_
  refine g_puti C F4 (by rw [hw]; decide) rfl (by decide) 6 (by decide) rfl (hts (.fieldLink RX4 30 "FallBench$Sorter" "count" "I") (by decide +kernel)) rfl rfl rfl rfl dX4_newHeap_77 ?_
  refine g_aload_n C dX4_newHeap_80 rfl ?_
  refine g_geti (v := nI c + 1) C F4 (by rw [hw]; decide) rfl (by decide) 6 (by decide) rfl (hts (.fieldLink RX4 30 "FallBench$Sorter" "count" "I") (by decide +kernel)) rfl (up2_eq _ _ _ _) dX4_newHeap_81 ?_
  refine g_iconst (v := 1) C dX4_newHeap_84 (by decide) ?_
  refine g_isub C dX4_newHeap_85 ?_
  exact g_iret C Rr ⟨rfl, ⟨by rw [← nI_succ, nI_pred], by rw [nI_clamp (by omega)]; rfl⟩⟩ dX4_newHeap_86

/-- input i comes in, its machine being m, c heaps being there -/
def s_in (M : Nat → Nat → Int32) (m i c : Nat) : Nat → Nat → Int32 := if M m 7 = 0 then up2 M 41 i (-1) else match hfd (sLike M m) c with
  | some h => up2 (up2 (up2 M 41 i (-1)) 37 h (M 37 h + 1)) 41 i (nI h)
  | none => up2 (up2 (s_new (up2 M 41 i (-1)) m c (nI i)) 37 c (0 + 1)) 41 i (nI c)

theorem nm1 {h : Nat} (hh : h < 2 ^ 31) : ¬ nI h = -1 := fun z => absurd (show nI h < 0 by rw [z]; decide) (nI_pos hh)

set_option maxHeartbeats 4000000 in
set_option maxRecDepth 100000 in
theorem c_X4_sortIn {l : Launch} {D : va_G} {w : gw} {M : Nat → Nat → Int32} {J : Nat → Nat → Int64} {R : Nat → Nat → Option Nat} (hw : w.1 = 166) (hR : LayC R) {m i c : Nat} (hm : isMach w R m) (hc : M 35 6 = nI c) (hi : i < 30) (hci : c ≤ i) : Cf l yX4_sortIn wsX4_sortIn ({ frames := 1, cells := 0, slots := 0, locals := 22 } : Room) D w [.ref (w.2.1 35), .int (nI i), .ref (w.2.1 m)] M J R none (s_in M m i c) J R := by
  obtain ⟨m_hi4, m_k, m_k1, m_k2, m_k3, m_k4, m_l1, m_l2, m_l3, m_l4, m_r0, m_r1, m_r2, m_r3⟩ := id hm
  have m_hi : m < w.1 := by omega
  have m_hi1 : m + 1 < w.1 := by omega
  have m_hi2 : m + 2 < w.1 := by omega
  have m_hi3 : m + 3 < w.1 := by omega
  have n36 : m ≠ 36 := fun h => by rw [h] at m_k; cases m_k
  have n37 : m ≠ 37 := fun h => by rw [h] at m_k; cases m_k
  have n38 : m ≠ 38 := fun h => by rw [h] at m_k; cases m_k
  have n39 : m ≠ 39 := fun h => by rw [h] at m_k; cases m_k
  have n41 : m ≠ 41 := fun h => by rw [h] at m_k; cases m_k
  have n35 : m ≠ 35 := fun h => by rw [h] at m_k; cases m_k
  refine Cg.of (own := RX4) (cc := cX4_sortIn) (maxL := 4) (ret := none) 1 (by decide) rfl rfl (Nat.le_of_ble_eq_true rfl) (fun X C hts V Rr => ?_)
  have F4 : FW X 4 := fun q h => hts q (List.mem_cons_of_mem _ (List.mem_append_left _ (List.mem_append_right _ h)))
  have F0 : FW X 0 := fun q h => hts q (List.mem_cons_of_mem _ (List.mem_append_right _ h))
  show Gj X 0 0 w M J R 0 [some (.ref (w.2.1 35)), some (.int (nI i)), some (.ref (w.2.1 m)), none] []
  by_cases hE : M m 7 = 0
  · refine g_iload_n C dX4_sortIn_0 rfl ?_
    refine g_if_lt (tgt := 10) C dX4_sortIn_1 (by decide) (fun c1 => absurd c1 (nI_pos (by omega))) (fun c1 => ?_)
    refine g_iload_n C dX4_sortIn_4 rfl ?_
    refine g_bipush (v := 30) C dX4_sortIn_5 (by decide) ?_
    refine g_icmp_lt (tgt := 11) C dX4_sortIn_7 (by decide) (fun c7 => ?_) (fun c7 => absurd c7 (not_not_intro (show nI i < 30 from nI_lt (b := 30) hi (by decide))))
    refine g_aload_n C dX4_sortIn_11 rfl ?_
    refine g_getr (j := 41) C F4 (by rw [hw]; decide) rfl (by decide) 5 (by decide) rfl (hts (.fieldLink RX4 27 "FallBench$Sorter" "heapOfInput" "[I") (by decide +kernel)) rfl (hR (35, 5, 41) (by decide)) dX4_sortIn_12 ?_
    refine g_iload_n C dX4_sortIn_15 rfl ?_
    refine g_iconst (v := (-1)) C dX4_sortIn_16 (by decide) ?_
    refine g_iast C (by rw [hw]; decide) rfl (vp_in_nI (N := 30) hi (by decide)) dX4_sortIn_17 ?_
    refine g_aload_n C dX4_sortIn_18 rfl ?_
    refine g_geti (v := M m 7) C F0 m_hi m_k (by decide) 7 (by decide) rfl (hts (.fieldLink RX4 34 "FallBench$Machine" "ended" "I") (by decide +kernel)) rfl (up2_n1 _ _ n41) dX4_sortIn_19 ?_
    refine g_if_ne (tgt := 26) C dX4_sortIn_22 (by decide) (fun c22 => absurd c22 (not_not_intro hE)) (fun c22 => ?_)
    exact g_vret C Rr ⟨rfl, ⟨rfl, by rw [s_in, if_pos hE, nI_clamp (by omega)]⟩⟩ dX4_sortIn_25
  have e41 : ∀ x y, x ≠ 41 → up2 M 41 i (-1) x y = M x y := fun x y h => up2_n1 _ _ h
  have eL : hfd (sLike (up2 M 41 i (-1)) m) c = hfd (sLike M m) c := hfd_congr c (fun k _ => by simp only [sLike]; rw [e41 38 k (by decide), e41 39 k (by decide), e41 40 k (by decide), e41 m 7 n41, e41 m 8 n41, e41 m 10 n41])
  rcases hf : hfd (sLike M m) c with _ | h
  · refine g_iload_n C dX4_sortIn_0 rfl ?_
    refine g_if_lt (tgt := 10) C dX4_sortIn_1 (by decide) (fun c1 => absurd c1 (nI_pos (by omega))) (fun c1 => ?_)
    refine g_iload_n C dX4_sortIn_4 rfl ?_
    refine g_bipush (v := 30) C dX4_sortIn_5 (by decide) ?_
    refine g_icmp_lt (tgt := 11) C dX4_sortIn_7 (by decide) (fun c7 => ?_) (fun c7 => absurd c7 (not_not_intro (show nI i < 30 from nI_lt (b := 30) hi (by decide))))
    refine g_aload_n C dX4_sortIn_11 rfl ?_
    refine g_getr (j := 41) C F4 (by rw [hw]; decide) rfl (by decide) 5 (by decide) rfl (hts (.fieldLink RX4 27 "FallBench$Sorter" "heapOfInput" "[I") (by decide +kernel)) rfl (hR (35, 5, 41) (by decide)) dX4_sortIn_12 ?_
    refine g_iload_n C dX4_sortIn_15 rfl ?_
    refine g_iconst (v := (-1)) C dX4_sortIn_16 (by decide) ?_
    refine g_iast C (by rw [hw]; decide) rfl (vp_in_nI (N := 30) hi (by decide)) dX4_sortIn_17 ?_
    refine g_aload_n C dX4_sortIn_18 rfl ?_
    refine g_geti (v := M m 7) C F0 m_hi m_k (by decide) 7 (by decide) rfl (hts (.fieldLink RX4 34 "FallBench$Machine" "ended" "I") (by decide +kernel)) rfl (up2_n1 _ _ n41) dX4_sortIn_19 ?_
    refine g_if_ne (tgt := 26) C dX4_sortIn_22 (by decide) (fun c22 => ?_) (fun c22 => absurd c22 hE)
    refine g_aload_n C dX4_sortIn_26 rfl ?_
    refine g_aload_n C dX4_sortIn_27 rfl ?_
    refine g_callVf C hts V (i := 35) (gX4_sortIn_X4_heapLike) rfl hdX4_heapLike (by decide) (Cf.to (c_X4_heapLike (c := c) hw hR hm (by rw [nI_clamp (show i < 2 ^ 31 by omega), e41 _ _ (by decide)]; exact hc) (by omega)) (show _ = some (Value.int (-1)) by rw [nI_clamp (show i < 2 ^ 31 by omega), eL, hf]; rfl) rfl) (by rw [hw]; decide) rfl (by decide) rfl rfl (Nat.le_of_ble_eq_true rfl) dX4_sortIn_28 ?_
    refine g_istore_n C V.2.1 dX4_sortIn_31 (by decide) rfl ?_
    refine g_iload_n C dX4_sortIn_32 rfl ?_
    refine g_iconst (v := (-1)) C dX4_sortIn_33 (by decide) ?_
    refine g_icmp_ne (tgt := 44) C dX4_sortIn_34 (by decide) (fun c34 => absurd c34 (fun z => z rfl)) (fun c34 => ?_)
    refine g_aload_n C dX4_sortIn_37 rfl ?_
    refine g_iload_n C dX4_sortIn_38 rfl ?_
    refine g_aload_n C dX4_sortIn_39 rfl ?_
    refine g_callVf C hts V (i := 35) (gX4_sortIn_X4_newHeap) rfl hdX4_newHeap (by decide) (c_X4_newHeap (c := c) hw hR hm (by rw [nI_clamp (show i < 2 ^ 31 by omega), e41 _ _ (by decide)]; exact hc) (by omega)) (by rw [hw]; decide) rfl (by decide) rfl rfl (Nat.le_of_ble_eq_true rfl) dX4_sortIn_40 ?_
    refine g_istore_n C V.2.1 dX4_sortIn_43 (by decide) rfl ?_
    refine g_iload_n C dX4_sortIn_44 rfl ?_
    refine g_iconst (v := (-1)) C dX4_sortIn_45 (by decide) ?_
    refine g_icmp_eq (tgt := 66) C dX4_sortIn_46 (by decide) (fun c46 => absurd c46 (nm1 (by omega))) (fun c46 => ?_)
    refine g_aload_n C dX4_sortIn_49 rfl ?_
    refine g_getr (j := 37) C F4 (by rw [hw]; decide) rfl (by decide) 1 (by decide) rfl (hts (.fieldLink RX4 15 "FallBench$Sorter" "sizes" "[I") (by decide +kernel)) rfl (hR (35, 1, 37) (by decide)) dX4_sortIn_50 ?_
    refine g_iload_n C dX4_sortIn_53 rfl ?_
    refine g_dup2 C dX4_sortIn_54 rfl rfl ?_
    refine g_iald (v := 0) C (by rw [hw]; decide) rfl (vp_in_nI (N := 30) (by omega) (by decide)) (by rw [nI_clamp (show c < 2 ^ 31 by omega)]; simp [s_new, up2]) dX4_sortIn_55 ?_
    refine g_iconst (v := 1) C dX4_sortIn_56 (by decide) ?_
    refine g_iadd C dX4_sortIn_57 ?_
    refine g_iast C (by rw [hw]; decide) rfl (vp_in_nI (N := 30) (by omega) (by decide)) dX4_sortIn_58 ?_
    refine g_aload_n C dX4_sortIn_59 rfl ?_
    refine g_getr (j := 41) C F4 (by rw [hw]; decide) rfl (by decide) 5 (by decide) rfl (hts (.fieldLink RX4 27 "FallBench$Sorter" "heapOfInput" "[I") (by decide +kernel)) rfl (hR (35, 5, 41) (by decide)) dX4_sortIn_60 ?_
    refine g_iload_n C dX4_sortIn_63 rfl ?_
    refine g_iload_n C dX4_sortIn_64 rfl ?_
    refine g_iast C (by rw [hw]; decide) rfl (vp_in_nI (N := 30) hi (by decide)) dX4_sortIn_65 ?_
    exact g_vret C Rr ⟨rfl, ⟨rfl, by rw [s_in, if_neg hE, hf, nI_clamp (show i < 2 ^ 31 by omega), nI_clamp (show c < 2 ^ 31 by omega)]⟩⟩ dX4_sortIn_66
  · have hh := (hfd_spec hf).1
    have e41' : ∀ x y, x ≠ 41 → up2 M 41 (nI i).toNatClampNeg (-1) x y = M x y := fun x y h => up2_n1 _ _ h
    refine g_iload_n C dX4_sortIn_0 rfl ?_
    refine g_if_lt (tgt := 10) C dX4_sortIn_1 (by decide) (fun c1 => absurd c1 (nI_pos (by omega))) (fun c1 => ?_)
    refine g_iload_n C dX4_sortIn_4 rfl ?_
    refine g_bipush (v := 30) C dX4_sortIn_5 (by decide) ?_
    refine g_icmp_lt (tgt := 11) C dX4_sortIn_7 (by decide) (fun c7 => ?_) (fun c7 => absurd c7 (not_not_intro (show nI i < 30 from nI_lt (b := 30) hi (by decide))))
    refine g_aload_n C dX4_sortIn_11 rfl ?_
    refine g_getr (j := 41) C F4 (by rw [hw]; decide) rfl (by decide) 5 (by decide) rfl (hts (.fieldLink RX4 27 "FallBench$Sorter" "heapOfInput" "[I") (by decide +kernel)) rfl (hR (35, 5, 41) (by decide)) dX4_sortIn_12 ?_
    refine g_iload_n C dX4_sortIn_15 rfl ?_
    refine g_iconst (v := (-1)) C dX4_sortIn_16 (by decide) ?_
    refine g_iast C (by rw [hw]; decide) rfl (vp_in_nI (N := 30) hi (by decide)) dX4_sortIn_17 ?_
    refine g_aload_n C dX4_sortIn_18 rfl ?_
    refine g_geti (v := M m 7) C F0 m_hi m_k (by decide) 7 (by decide) rfl (hts (.fieldLink RX4 34 "FallBench$Machine" "ended" "I") (by decide +kernel)) rfl (up2_n1 _ _ n41) dX4_sortIn_19 ?_
    refine g_if_ne (tgt := 26) C dX4_sortIn_22 (by decide) (fun c22 => ?_) (fun c22 => absurd c22 hE)
    refine g_aload_n C dX4_sortIn_26 rfl ?_
    refine g_aload_n C dX4_sortIn_27 rfl ?_
    refine g_callVf C hts V (i := 35) (gX4_sortIn_X4_heapLike) rfl hdX4_heapLike (by decide) (Cf.to (c_X4_heapLike (c := c) hw hR hm (by rw [nI_clamp (show i < 2 ^ 31 by omega), e41 _ _ (by decide)]; exact hc) (by omega)) (show _ = some (Value.int (nI h)) by rw [nI_clamp (show i < 2 ^ 31 by omega), eL, hf]; rfl) rfl) (by rw [hw]; decide) rfl (by decide) rfl rfl (Nat.le_of_ble_eq_true rfl) dX4_sortIn_28 ?_
    refine g_istore_n C V.2.1 dX4_sortIn_31 (by decide) rfl ?_
    refine g_iload_n C dX4_sortIn_32 rfl ?_
    refine g_iconst (v := (-1)) C dX4_sortIn_33 (by decide) ?_
    refine g_icmp_ne (tgt := 44) C dX4_sortIn_34 (by decide) (fun c34 => ?_) (fun c34 => absurd c34 (nm1 (by omega)))
    refine g_iload_n C dX4_sortIn_44 rfl ?_
    refine g_iconst (v := (-1)) C dX4_sortIn_45 (by decide) ?_
    refine g_icmp_eq (tgt := 66) C dX4_sortIn_46 (by decide) (fun c46 => absurd c46 (nm1 (by omega))) (fun c46 => ?_)
    refine g_aload_n C dX4_sortIn_49 rfl ?_
    refine g_getr (j := 37) C F4 (by rw [hw]; decide) rfl (by decide) 1 (by decide) rfl (hts (.fieldLink RX4 15 "FallBench$Sorter" "sizes" "[I") (by decide +kernel)) rfl (hR (35, 1, 37) (by decide)) dX4_sortIn_50 ?_
    refine g_iload_n C dX4_sortIn_53 rfl ?_
    refine g_dup2 C dX4_sortIn_54 rfl rfl ?_
    refine g_iald (v := M 37 h) C (by rw [hw]; decide) rfl (vp_in_nI (N := 30) (by omega) (by decide)) (by rw [nI_clamp (show h < 2 ^ 31 by omega)]; exact e41' 37 h (by decide)) dX4_sortIn_55 ?_
    refine g_iconst (v := 1) C dX4_sortIn_56 (by decide) ?_
    refine g_iadd C dX4_sortIn_57 ?_
    refine g_iast C (by rw [hw]; decide) rfl (vp_in_nI (N := 30) (by omega) (by decide)) dX4_sortIn_58 ?_
    refine g_aload_n C dX4_sortIn_59 rfl ?_
    refine g_getr (j := 41) C F4 (by rw [hw]; decide) rfl (by decide) 5 (by decide) rfl (hts (.fieldLink RX4 27 "FallBench$Sorter" "heapOfInput" "[I") (by decide +kernel)) rfl (hR (35, 5, 41) (by decide)) dX4_sortIn_60 ?_
    refine g_iload_n C dX4_sortIn_63 rfl ?_
    refine g_iload_n C dX4_sortIn_64 rfl ?_
    refine g_iast C (by rw [hw]; decide) rfl (vp_in_nI (N := 30) hi (by decide)) dX4_sortIn_65 ?_
    exact g_vret C Rr ⟨rfl, ⟨rfl, by rw [s_in, if_neg hE, hf, nI_clamp (show i < 2 ^ 31 by omega), nI_clamp (show h < 2 ^ 31 by omega)]⟩⟩ dX4_sortIn_66
