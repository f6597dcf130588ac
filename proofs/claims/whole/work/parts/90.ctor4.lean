/-! THE CONSTRUCTOR of the bench: its loops -/
theorem gN_X7_37 {U : State} (h : gNest U) : va_Nw (.methodLinkNest RX7 37 yX0_init RX7) U := h.2.2.2.1
theorem gN_X7_50 {U : State} (h : gNest U) : va_Nw (.methodLinkNest RX7 50 yX4_init RX7) U := h.2.2.2.2.1
theorem gN_X7_57 {U : State} (h : gNest U) : va_Nw (.methodLinkNest RX7 57 yX6_init RX7) U := h.2.2.2.2.2.1
theorem gN_X7_70 {U : State} (h : gNest U) : va_Nw (.methodLinkNest RX7 70 yX2_init RX7) U := h.2.2.2.2.2.2.2.1
def r_pr (R : Nat → Nat → Option Nat) (i : Nat) : Nat → Nat → Option Nat := up2 (up2 (up2 (up2 R i 0 (some (i + 1))) i 1 (some (i + 2))) i 2 (some (i + 3))) i 3 (some (i + 4))
def r_sh (R : Nat → Nat → Option Nat) : Nat → Nat → Nat → Option Nat
  | 0 => R
  | j + 1 => up2 (r_pr (r_sh R j) (59 + 5 * j)) 3 j (some (59 + 5 * j))
def r_in (R : Nat → Nat → Option Nat) : Nat → Nat → Nat → Option Nat
  | 0 => R
  | j + 1 => up2 (up2 (r_in R j) (74 + 2 * j) 0 (some (74 + 2 * j + 1))) 19 j (some (74 + 2 * j))
theorem r_in_03 (R : Nat → Nat → Option Nat) (k j : Nat) : r_in R j 0 k = R 0 k := by
  induction j with
  | zero => rfl
  | succ j ih => show up2 (up2 (r_in R j) _ 0 _) 19 j _ 0 k = _; rw [up2_n1 _ _ (by decide), up2_n1 _ _ (by omega), ih]
theorem r_sh_0 (R : Nat → Nat → Option Nat) (k j : Nat) : r_sh R j 0 k = R 0 k := by
  induction j with
  | zero => rfl
  | succ j ih =>
    show up2 (r_pr (r_sh R j) (59 + 5 * j)) 3 j _ 0 k = _
    unfold r_pr
    rw [up2_n1 _ _ (by decide), up2_n1 _ _ (by omega), up2_n1 _ _ (by omega), up2_n1 _ _ (by omega), up2_n1 _ _ (by omega), ih]
theorem kd_in : ∀ j, j < 30 → kd (74 + 2 * j) = 3 ∧ kd (74 + 2 * j + 1) = 9 ∧ ln (74 + 2 * j + 1) = 24 := by decide +kernel
theorem kd_sh : ∀ j, j < 3 → kd (59 + 5 * j) = 2 ∧ kd (59 + 5 * j + 1) = 9 ∧ kd (59 + 5 * j + 2) = 9 ∧ kd (59 + 5 * j + 3) = 9 ∧ kd (59 + 5 * j + 4) = 9 ∧ ln (59 + 5 * j + 1) = 80 ∧ ln (59 + 5 * j + 2) = 80 ∧ ln (59 + 5 * j + 3) = 80 ∧ ln (59 + 5 * j + 4) = 80 := by decide +kernel
theorem Gj_ab {X : gX} {a b a' b' : Nat} {w : gw} {M : Nat → Nat → Int32} {J : Nat → Nat → Int64} {R : Nat → Nat → Option Nat} {pc : Nat} {lv : List (Option Value)} {st : List Value} (h : Gj X a b w M J R pc lv st) (ha : a = a') (hb : b = b') : Gj X a' b' w M J R pc lv st := by subst ha; subst hb; exact h

set_option maxHeartbeats 4000000 in
set_option maxRecDepth 100000 in
theorem x7_in {X : gX} (C : Cx X RX7 cX7_init) (hts : ∀ q ∈ wsX7_init, CB X q) {l : Launch} {D : va_G} (V : Cv X l D ({ frames := 5, cells := 133, slots := 7484, locals := 110 } : Room) 2 yX7_init.name) {post : Option Value → gw → gm → Prop} (Rr : Cr X none post 133 7484) {M : Nat → Nat → Int32} {J : Nat → Nat → Int64} {R : Nat → Nat → Option Nat} (h3 : R 0 3 = some 19) (w0 : gw) (hp : ∀ w, gle w0 w → w.1 = 134 → Fr 134 M J (r_in R 30) → post none w (M, J, r_in R 30)) : ∀ dd j w, j + dd = 30 → gle w0 w → w.1 = 74 + 2 * j → Fr (74 + 2 * j) M J (r_in R j) → Gj X (73 + 2 * j) (6704 + 26 * j) w M J (r_in R j) 139 [some (.ref (w.2.1 0)), some (.int (nI j))] [] := by
  have F3 : FW X 3 := fun q h => hts q (List.mem_cons_of_mem _ (List.mem_append_left _ (List.mem_append_left _ (List.mem_append_left _ (List.mem_append_left _ (List.mem_append_left _ (List.mem_append_left _ (List.mem_append_left _ (List.mem_append_right _ h)))))))))
  have F7 : FW X 7 := fun q h => hts q (List.mem_cons_of_mem _ (List.mem_append_left _ (List.mem_append_left _ (List.mem_append_left _ (List.mem_append_left _ (List.mem_append_left _ (List.mem_append_left _ (List.mem_append_right _ h))))))))
  have F1 : FW X 1 := fun q h => hts q (List.mem_cons_of_mem _ (List.mem_append_left _ (List.mem_append_left _ (List.mem_append_left _ (List.mem_append_left _ (List.mem_append_left _ (List.mem_append_right _ h)))))))
  have F0 : FW X 0 := fun q h => hts q (List.mem_cons_of_mem _ (List.mem_append_left _ (List.mem_append_left _ (List.mem_append_left _ (List.mem_append_left _ (List.mem_append_right _ h))))))
  have F4 : FW X 4 := fun q h => hts q (List.mem_cons_of_mem _ (List.mem_append_left _ (List.mem_append_left _ (List.mem_append_left _ (List.mem_append_right _ h)))))
  have F6 : FW X 6 := fun q h => hts q (List.mem_cons_of_mem _ (List.mem_append_left _ (List.mem_append_left _ (List.mem_append_right _ h))))
  have F2 : FW X 2 := fun q h => hts q (List.mem_cons_of_mem _ (List.mem_append_left _ (List.mem_append_right _ h)))
  have F5 : FW X 5 := fun q h => hts q (List.mem_cons_of_mem _ (List.mem_append_right _ h))
  intro dd
  induction dd with
  | zero =>
    intro j w hj hg hw fr
    obtain rfl : j = 30 := by omega
    refine g_iload_n C dX7_init_139 rfl ?_
    refine g_bipush (v := 30) C dX7_init_140 (by decide) ?_
    refine g_icmp_ge (tgt := 166) C dX7_init_142 (by decide) (fun _ => ?_) (fun z => absurd (by decide) z)
    exact g_vret C Rr (hp w hg hw fr) dX7_init_166
  | succ dd ih =>
    intro j w hj hg hw fr
    obtain ⟨k1, k2, k3⟩ := kd_in j (by omega)
    refine g_iload_n C dX7_init_139 rfl ?_
    refine g_bipush (v := 30) C dX7_init_140 (by decide) ?_
    refine g_icmp_ge (tgt := 166) C dX7_init_142 (by decide) (fun z => absurd z (nI_ge (b := 30) (by omega) (by decide))) (fun _ => ?_)
    refine g_aload_n C dX7_init_145 rfl ?_
    refine g_getr (j := 19) C F7 (by rw [hw]; omega) rfl (by decide) 3 (by decide) rfl (hts (.fieldLink RX7 31 "FallBench" "inputs" "[LFallBench$Row;") (by decide +kernel)) rfl (by rw [r_in_03]; exact h3) dX7_init_146 ?_
    refine g_iload_n C dX7_init_149 rfl ?_
    refine g_new (ci := 3) (N := 2) C V F3 (by decide) (by rw [hw]; exact k1) (by rw [hw]; exact fr) (hts (.classLink RX7 9 RX3) (by decide +kernel)) (hts (.instantiable RX3 2) (by decide +kernel)) (hts (.initialized RX3) (by decide +kernel)) rfl ⟨by show 73 + 2 * j + 1 ≤ 133; omega, by show 6704 + 26 * j + 2 ≤ 7484; omega⟩ dX7_init_150 (fun w1 e1 n1 => ?_)
    rw [hw] at n1
    rw [← e1.2 0 (by rw [hw]; omega), ← e1.2 19 (by rw [hw]; omega), hw]
    refine g_dup C dX7_init_153 rfl ?_
    refine g_bipush (v := 24) C dX7_init_154 (by decide) ?_
    refine g_callI (mc := 1) (ms := 24) C hts V (i := 74 + 2 * j) (gX7_init_X3_init) rfl (hts (.methodLink RX7 11 yX3_init) (by decide +kernel)) (hts (.instanceMethod yX3_init) (by decide +kernel)) (hts (.initialized RX3) (by decide +kernel)) rfl hdX3_init ⟨by decide, by decide, rfl, rfl, by show 73 + 2 * j + 1 + 1 ≤ 133; omega, by show 6704 + 26 * j + 2 + 24 ≤ 7484; omega⟩ (c_X3_init_24 (i := 74 + 2 * j) n1 fr ⟨k1, k2, k3⟩) rfl rfl (Nat.le_of_ble_eq_true rfl) dX7_init_156 (fun v w2 M1 J1 R1 h => ?_)
    obtain ⟨v0, e2, n2, fr2, hu⟩ := h
    subst v0
    cases hu
    rw [← e2.2 0 (by rw [n1]; omega), ← e2.2 19 (by rw [n1]; omega), ← e2.2 (74 + 2 * j) (by rw [n1]; omega)]
    have eM : up2 M (74 + 2 * j) 1 0 = M := up2_id M _ _ (fr.1 _ _ (Nat.le_refl _)).1
    rw [eM] at fr2 ⊢
    refine g_aast (i := 19) (j := 74 + 2 * j) C (by rw [n2]; omega) (by rw [n2]; omega) (Or.inr ⟨rfl, k1⟩) (vp_in_nI (N := 30) (by omega) (by decide)) dX7_init_159 ?_
    rw [nI_clamp (show j < 2 ^ 31 by omega)]
    refine g_iinc (v := nI (j + 1)) C V.2.1 dX7_init_160 rfl (nI_succ j).symm (by decide) rfl ?_
    refine g_goto (tgt := 139) C dX7_init_163 (by decide) ?_
    exact Gj_ab (ih (j + 1) w2 (by omega) ((hg.tr e1).tr e2) (by rw [n2]; omega) ((fr2.uR (i := 19) (k := j) (j := 74 + 2 * j) (by omega) (by omega)).mono (by omega))) (by omega) (by omega)

set_option maxHeartbeats 4000000 in
set_option maxRecDepth 100000 in
theorem x7_sh {X : gX} (C : Cx X RX7 cX7_init) (hts : ∀ q ∈ wsX7_init, CB X q) {l : Launch} {D : va_G} (V : Cv X l D ({ frames := 5, cells := 133, slots := 7484, locals := 110 } : Room) 2 yX7_init.name) {M : Nat → Nat → Int32} {J : Nat → Nat → Int64} {R : Nat → Nat → Option Nat} (h1 : R 0 1 = some 3) (w0 : gw) (kk : ∀ w, gle w0 w → w.1 = 74 → Fr 74 M J (r_sh R 3) → Gj X 73 6704 w M J (r_sh R 3) 137 [some (.ref (w.2.1 0)), some (.int 3)] []) : ∀ dd j w, j + dd = 3 → gle w0 w → w.1 = 59 + 5 * j → Fr (59 + 5 * j) M J (r_sh R j) → Gj X (58 + 5 * j) (5729 + 325 * j) w M J (r_sh R j) 113 [some (.ref (w.2.1 0)), some (.int (nI j))] [] := by
  have F3 : FW X 3 := fun q h => hts q (List.mem_cons_of_mem _ (List.mem_append_left _ (List.mem_append_left _ (List.mem_append_left _ (List.mem_append_left _ (List.mem_append_left _ (List.mem_append_left _ (List.mem_append_left _ (List.mem_append_right _ h)))))))))
  have F7 : FW X 7 := fun q h => hts q (List.mem_cons_of_mem _ (List.mem_append_left _ (List.mem_append_left _ (List.mem_append_left _ (List.mem_append_left _ (List.mem_append_left _ (List.mem_append_left _ (List.mem_append_right _ h))))))))
  have F1 : FW X 1 := fun q h => hts q (List.mem_cons_of_mem _ (List.mem_append_left _ (List.mem_append_left _ (List.mem_append_left _ (List.mem_append_left _ (List.mem_append_left _ (List.mem_append_right _ h)))))))
  have F0 : FW X 0 := fun q h => hts q (List.mem_cons_of_mem _ (List.mem_append_left _ (List.mem_append_left _ (List.mem_append_left _ (List.mem_append_left _ (List.mem_append_right _ h))))))
  have F4 : FW X 4 := fun q h => hts q (List.mem_cons_of_mem _ (List.mem_append_left _ (List.mem_append_left _ (List.mem_append_left _ (List.mem_append_right _ h)))))
  have F6 : FW X 6 := fun q h => hts q (List.mem_cons_of_mem _ (List.mem_append_left _ (List.mem_append_left _ (List.mem_append_right _ h))))
  have F2 : FW X 2 := fun q h => hts q (List.mem_cons_of_mem _ (List.mem_append_left _ (List.mem_append_right _ h)))
  have F5 : FW X 5 := fun q h => hts q (List.mem_cons_of_mem _ (List.mem_append_right _ h))
  intro dd
  induction dd with
  | zero =>
    intro j w hj hg hw fr
    obtain rfl : j = 3 := by omega
    refine g_iload_n C dX7_init_113 rfl ?_
    refine g_iconst (v := 3) C dX7_init_114 (by decide) ?_
    refine g_icmp_ge (tgt := 137) C dX7_init_115 (by decide) (fun _ => ?_) (fun z => absurd (by decide) z)
    exact Gj_ab (kk w hg hw fr) (by decide) (by decide)
  | succ dd ih =>
    intro j w hj hg hw fr
    obtain ⟨k1, k2⟩ := kd_sh j (by omega)
    refine g_iload_n C dX7_init_113 rfl ?_
    refine g_iconst (v := 3) C dX7_init_114 (by decide) ?_
    refine g_icmp_ge (tgt := 137) C dX7_init_115 (by decide) (fun z => absurd z (nI_ge (b := 3) (by omega) (by decide))) (fun _ => ?_)
    refine g_aload_n C dX7_init_118 rfl ?_
    refine g_getr (j := 3) C F7 (by rw [hw]; omega) rfl (by decide) 1 (by decide) rfl (hts (.fieldLink RX7 20 "FallBench" "shelves" "[LFallBench$Program;") (by decide +kernel)) rfl (by rw [r_sh_0]; exact h1) dX7_init_119 ?_
    refine g_iload_n C dX7_init_122 rfl ?_
    refine g_new (ci := 2) (N := 5) C V F2 (by decide) (by rw [hw]; exact k1) (by rw [hw]; exact fr) (hts (.classLink RX7 18 RX2) (by decide +kernel)) (hts (.instantiable RX2 5) (by decide +kernel)) (hts (.initialized RX2) (by decide +kernel)) rfl ⟨by show 58 + 5 * j + 1 ≤ 133; omega, by show 5729 + 325 * j + 5 ≤ 7484; omega⟩ dX7_init_123 (fun w1 e1 n1 => ?_)
    rw [hw] at n1
    rw [← e1.2 0 (by rw [hw]; omega), ← e1.2 3 (by rw [hw]; omega), hw]
    refine g_dup C dX7_init_126 rfl ?_
    refine g_callIN (mc := 4) (ms := 320) C hts V (i := 59 + 5 * j) (gX7_init_X2_init_n70) rfl (gN_X7_70 C.2.2.2.2.2.1) (hts (.instanceMethod yX2_init) (by decide +kernel)) (hts (.initialized RX2) (by decide +kernel)) rfl hdX2_init ⟨by decide, by decide, rfl, rfl, by show 58 + 5 * j + 1 + 4 ≤ 133; omega, by show 5729 + 325 * j + 5 + 320 ≤ 7484; omega⟩ (c_X2_init (i := 59 + 5 * j) n1 fr ⟨k1, k2⟩) rfl rfl (Nat.le_of_ble_eq_true rfl) dX7_init_127 (fun v w2 M1 J1 R1 h => ?_)
    obtain ⟨v0, e2, n2, fr2, hu⟩ := h
    subst v0
    cases hu
    rw [← e2.2 0 (by rw [n1]; omega), ← e2.2 3 (by rw [n1]; omega), ← e2.2 (59 + 5 * j) (by rw [n1]; omega)]
    have eM : up2 M (59 + 5 * j) 4 0 = M := up2_id M _ _ (fr.1 _ _ (Nat.le_refl _)).1
    rw [eM] at fr2 ⊢
    refine g_aast (i := 3) (j := 59 + 5 * j) C (by rw [n2]; omega) (by rw [n2]; omega) (Or.inl ⟨rfl, k1⟩) (vp_in_nI (N := 3) (by omega) (by decide)) dX7_init_130 ?_
    rw [nI_clamp (show j < 2 ^ 31 by omega)]
    refine g_iinc (v := nI (j + 1)) C V.2.1 dX7_init_131 rfl (nI_succ j).symm (by decide) rfl ?_
    refine g_goto (tgt := 113) C dX7_init_134 (by decide) ?_
    exact Gj_ab (ih (j + 1) w2 (by omega) ((hg.tr e1).tr e2) (by rw [n2]; omega) ((fr2.uR (i := 3) (k := j) (j := 59 + 5 * j) (by omega) (by omega)).mono (by omega))) (by omega) (by omega)
