/-! HEAPS: the reference looks at them -/
theorem up2_n {M : Nat → Nat → Int32} {i k a b : Nat} {v : Int32} (h : ¬ (a = i ∧ b = k)) : up2 M i k v a b = M a b := by simp only [up2]; exact if_neg h

set_option maxHeartbeats 4000000 in
set_option maxRecDepth 100000 in
theorem c_X8_lookAtHeaps {l : Launch} {D : va_G} {w : gw} {M : Nat → Nat → Int32} {J : Nat → Nat → Int64} {R : Nat → Nat → Option Nat} (hw : w.1 = 166) (hR : LayM R) {a n : Nat} {P : List act4} {Is : Nat → List Int32} (ha : a < 3) (hn : n ≤ 30) (h9 : M 134 23 = nI n) (hP : progN M a P) (hL : okL2 P) (hA : ∀ i, i < n → inAtM M i (Is i)) (hB : ∀ i, i < n → okI (Is i)) : Ct l yX8_lookAtHeaps wsX8_lookAtHeaps ({ frames := 3, cells := 0, slots := 0, locals := 75 } : Room) D w [.ref (w.2.1 134), .int (nI a)] (M, J, R) (fun v u => v = none ∧ u.2.1 = J ∧ u.2.2 = R ∧ nIs (cE P Is) (cA P Is) (cM P Is) u.1 n (hps P Is n) ∧ ∀ x y, ¬ (x = 134 ∧ (29 ≤ y ∧ y ≤ 38 ∨ y = 50)) → ¬ (148 ≤ x ∧ x ≤ 152) → ¬ (158 ≤ x ∧ x ≤ 162) → u.1 x y = M x y) := by
  refine Cg.of (own := RX8) (cc := cX8_lookAtHeaps) (maxL := 4) (ret := none) 2 (by decide) rfl rfl (Nat.le_of_ble_eq_true rfl) (fun X C hts V Rr => ?_)
  have F8 : FW X 8 := fun q h => hts q (List.mem_cons_of_mem _ (List.mem_append_right _ h))
  show Gj X 0 0 w M J R 0 [some (.ref (w.2.1 134)), some (.int (nI a)), none, none] []
  have loop : ∀ dd j M0 z, j + dd = n → (∀ x y, ¬ (x = 134 ∧ (29 ≤ y ∧ y ≤ 38 ∨ y = 50)) → ¬ (148 ≤ x ∧ x ≤ 152) → ¬ (158 ≤ x ∧ x ≤ 162) → M0 x y = M x y) → nIs (cE P Is) (cA P Is) (cM P Is) M0 j (hps P Is j) → Gj X 0 0 w M0 J R 7 [some (.ref (w.2.1 134)), some (.int (nI a)), some (.int (nI j)), z] [] := by
    intro dd
    induction dd with
    | zero =>
      intro j M0 z hj hF0 hs
      obtain rfl : j = n := by omega
      refine g_iload_n C dX8_lookAtHeaps_7 rfl ?_
      refine g_aload_n C dX8_lookAtHeaps_8 rfl ?_
      refine g_geti (v := nI j) C F8 (by rw [hw]; decide) rfl (by decide) 23 (by decide) rfl (hts (.fieldLink RX8 225 "FallBenchModel" "inputMany" "I") (by decide +kernel)) rfl (by rw [hF0 134 23 (by omega) (by omega) (by omega)]; exact h9) dX8_lookAtHeaps_9 ?_
      refine g_icmp_ge (tgt := 193) C dX8_lookAtHeaps_12 (by decide) (fun c12 => ?_) (fun c12 => absurd c12 (not_not_intro (nI_le (Nat.le_refl _) (by omega))))
      exact g_vret C Rr ⟨rfl, ⟨rfl, rfl, rfl, hs, hF0⟩⟩ dX8_lookAtHeaps_193
    | succ dd ih =>
      intro j M0 z hj hF0 hs
      have hinv := hInv.all (E := cE P Is) (A := cA P Is) (C := cM P Is) j (by omega)
      have hle := hAll_le (cE P Is) (cA P Is) (cM P Is) j
      have hP0 : progN M0 a P := ⟨hP.1, by rw [hF0 _ _ (by omega) (by omega) (by omega)]; exact hP.2.1, fun k hk => by rw [hF0 137 _ (by omega) (by omega) (by omega), hF0 138 _ (by omega) (by omega) (by omega), hF0 139 _ (by omega) (by omega) (by omega), hF0 140 _ (by omega) (by omega) (by omega)]; exact hP.2.2 k hk⟩
      have hA0 : inAtM M0 j (Is j) := ⟨by rw [hF0 147 _ (by omega) (by omega) (by omega)]; exact (hA j (by omega)).1, fun k hk => by rw [hF0 146 _ (by omega) (by omega) (by omega)]; exact (hA j (by omega)).2 k hk⟩
      have back : ∀ M1, rF M0 M1 → Qk (RUN P (Is j)) (winM M1) → ∀ z, Gj X 0 0 w M1 J R 25 [some (.ref (w.2.1 134)), some (.int (nI a)), some (.int (nI j)), z] [] := by
        intro M1 hF hQ z
        have g7 : M1 134 30 = cE P Is j := (hQ.1 7 (by decide) (by decide)).symm
        have g8 : M1 134 31 = cA P Is j := (hQ.1 8 (by decide) (by decide)).symm
        have g10 : M1 134 33 = cM P Is j := (hQ.1 10 (by decide) (by decide)).symm
        have hs1 : nIs (cE P Is) (cA P Is) (cM P Is) M1 j (hps P Is j) := ⟨by rw [hF 134 50 (by omega) (by omega)]; exact hs.1, fun k hk => by rw [hF 158 k (by omega) (by omega), hF 159 k (by omega) (by omega), hF 160 k (by omega) (by omega), hF 161 k (by omega) (by omega)]; exact hs.2.1 k hk, fun k hk => by rw [hF 162 k (by omega) (by omega)]; exact hs.2.2 k hk⟩
        obtain ⟨q1, q2, q3, q4⟩ := nS_i M1 j (cE P Is j) (cA P Is j) (cM P Is j)
        have hFS : ∀ x y, ¬ (x = 134 ∧ (29 ≤ y ∧ y ≤ 38 ∨ y = 50)) → ¬ (148 ≤ x ∧ x ≤ 152) → ¬ (158 ≤ x ∧ x ≤ 162) → (nS M1 j (cE P Is j) (cA P Is j) (cM P Is j)) x y = M x y := fun x y h1 h2 h3 => by rw [nS_o _ _ _ _ _ (by omega), hF x y (by omega) (by omega)]; exact hF0 x y h1 h2 h3
        have e7 : (nS M1 j (cE P Is j) (cA P Is j) (cM P Is j)) 134 30 = cE P Is j := by rw [nS_o _ _ _ _ _ (by omega)]; exact g7
        have e8 : (nS M1 j (cE P Is j) (cA P Is j) (cM P Is j)) 134 31 = cA P Is j := by rw [nS_o _ _ _ _ _ (by omega)]; exact g8
        have e10 : (nS M1 j (cE P Is j) (cA P Is j) (cM P Is j)) 134 33 = cM P Is j := by rw [nS_o _ _ _ _ _ (by omega)]; exact g10
        have found : ∀ d k, d < (hps P Is j).1 → hfd (cLike (cE P Is) (cA P Is) (cM P Is) (hps P Is j).2.1 j) (hps P Is j).1 = some d → ¬ cE P Is j = 0 → k ≤ j → Gj X 0 0 w (up2 (nS M1 j (cE P Is j) (cA P Is j) (cM P Is j)) 161 j (nI d)) J R 74 [some (.ref (w.2.1 134)), some (.int (nI a)), some (.int (nI j)), some (.int (nI k))] [] := by
          intro d k hd hf hE hk
          have hd2 : d < 2 ^ 31 := Nat.lt_of_lt_of_le hd (Nat.le_trans hle (by omega))
          refine g_iload_n C dX8_lookAtHeaps_74 rfl ?_
          refine g_iload_n C dX8_lookAtHeaps_75 rfl ?_
          refine g_icmp_ge (tgt := 145) C dX8_lookAtHeaps_76 (by decide) (fun c76 => ?_) (fun c76 => ?_)
          · refine g_aload_n C dX8_lookAtHeaps_145 rfl ?_
            refine g_getr (j := 161) C F8 (by rw [hw]; decide) rfl (by decide) 48 (by decide) rfl (hts (.fieldLink RX8 94 "FallBenchModel" "cHeap" "[I") (by decide +kernel)) rfl (hR (48, 161) (by decide)) dX8_lookAtHeaps_146 ?_
            refine g_iload_n C dX8_lookAtHeaps_149 rfl ?_
            refine g_iald (v := nI d) C (by rw [hw]; decide) rfl (vp_in_nI (N := 30) (by omega) (by decide)) (by rw [nI_clamp (by omega), up2_eq]) dX8_lookAtHeaps_150 ?_
            refine g_if_lt (tgt := 157) C dX8_lookAtHeaps_151 (by decide) (fun c151 => absurd c151 (nI_pos (by omega))) (fun c151 => ?_)
            refine g_goto (tgt := 187) C dX8_lookAtHeaps_154 (by decide) ?_
            refine g_iinc (v := nI (j + 1)) C V.2.1 dX8_lookAtHeaps_187 rfl (nI_succ j).symm (by decide) rfl ?_
            refine g_goto (tgt := 7) C dX8_lookAtHeaps_190 (by decide) ?_
            exact ih (j + 1) _ _ (by omega) (fun x y h1 h2 h3 => by rw [up2_n1 _ _ (by omega)]; exact hFS x y h1 h2 h3) (hs1.found hE hf)
          · refine g_aload_n C dX8_lookAtHeaps_79 rfl ?_
            refine g_getr (j := 161) C F8 (by rw [hw]; decide) rfl (by decide) 48 (by decide) rfl (hts (.fieldLink RX8 94 "FallBenchModel" "cHeap" "[I") (by decide +kernel)) rfl (hR (48, 161) (by decide)) dX8_lookAtHeaps_80 ?_
            refine g_iload_n C dX8_lookAtHeaps_83 rfl ?_
            refine g_iald (v := nI d) C (by rw [hw]; decide) rfl (vp_in_nI (N := 30) (by omega) (by decide)) (by rw [nI_clamp (by omega), up2_eq]) dX8_lookAtHeaps_84 ?_
            refine g_if_ge (tgt := 145) C dX8_lookAtHeaps_85 (by decide) (fun c85 => ?_) (fun c85 => absurd c85 (not_not_intro (nI_pos' (by omega))))
            refine g_aload_n C dX8_lookAtHeaps_145 rfl ?_
            refine g_getr (j := 161) C F8 (by rw [hw]; decide) rfl (by decide) 48 (by decide) rfl (hts (.fieldLink RX8 94 "FallBenchModel" "cHeap" "[I") (by decide +kernel)) rfl (hR (48, 161) (by decide)) dX8_lookAtHeaps_146 ?_
            refine g_iload_n C dX8_lookAtHeaps_149 rfl ?_
            refine g_iald (v := nI d) C (by rw [hw]; decide) rfl (vp_in_nI (N := 30) (by omega) (by decide)) (by rw [nI_clamp (by omega), up2_eq]) dX8_lookAtHeaps_150 ?_
            refine g_if_lt (tgt := 157) C dX8_lookAtHeaps_151 (by decide) (fun c151 => absurd c151 (nI_pos (by omega))) (fun c151 => ?_)
            refine g_goto (tgt := 187) C dX8_lookAtHeaps_154 (by decide) ?_
            refine g_iinc (v := nI (j + 1)) C V.2.1 dX8_lookAtHeaps_187 rfl (nI_succ j).symm (by decide) rfl ?_
            refine g_goto (tgt := 7) C dX8_lookAtHeaps_190 (by decide) ?_
            exact ih (j + 1) _ _ (by omega) (fun x y h1 h2 h3 => by rw [up2_n1 _ _ (by omega)]; exact hFS x y h1 h2 h3) (hs1.found hE hf)
        have seek : ¬ cE P Is j = 0 → ∀ ee k, k + ee = j → (∀ r, r < k → ¬ sameC (cE P Is) (cA P Is) (cM P Is) r j) → Gj X 0 0 w (nS M1 j (cE P Is j) (cA P Is j) (cM P Is j)) J R 74 [some (.ref (w.2.1 134)), some (.int (nI a)), some (.int (nI j)), some (.int (nI k))] [] := by
          intro hE ee
          induction ee with
          | zero =>
            intro k hk hv
            obtain rfl : k = j := by omega
            refine g_iload_n C dX8_lookAtHeaps_74 rfl ?_
            refine g_iload_n C dX8_lookAtHeaps_75 rfl ?_
            refine g_icmp_ge (tgt := 145) C dX8_lookAtHeaps_76 (by decide) (fun c76 => ?_) (fun c76 => absurd c76 (not_not_intro (nI_le (Nat.le_refl _) (by omega))))
            refine g_aload_n C dX8_lookAtHeaps_145 rfl ?_
            refine g_getr (j := 161) C F8 (by rw [hw]; decide) rfl (by decide) 48 (by decide) rfl (hts (.fieldLink RX8 94 "FallBenchModel" "cHeap" "[I") (by decide +kernel)) rfl (hR (48, 161) (by decide)) dX8_lookAtHeaps_146 ?_
            refine g_iload_n C dX8_lookAtHeaps_149 rfl ?_
            refine g_iald (v := (-1)) C (by rw [hw]; decide) rfl (vp_in_nI (N := 30) (by omega) (by decide)) (by rw [nI_clamp (by omega)]; exact q4) dX8_lookAtHeaps_150 ?_
            refine g_if_lt (tgt := 157) C dX8_lookAtHeaps_151 (by decide) (fun c151 => ?_) (fun c151 => absurd c151 (not_not_intro (by decide)))
            refine g_aload_n C dX8_lookAtHeaps_157 rfl ?_
            refine g_getr (j := 161) C F8 (by rw [hw]; decide) rfl (by decide) 48 (by decide) rfl (hts (.fieldLink RX8 94 "FallBenchModel" "cHeap" "[I") (by decide +kernel)) rfl (hR (48, 161) (by decide)) dX8_lookAtHeaps_158 ?_
            refine g_iload_n C dX8_lookAtHeaps_161 rfl ?_
            refine g_aload_n C dX8_lookAtHeaps_162 rfl ?_
            refine g_geti (v := nI (hps P Is k).1) C F8 (by rw [hw]; decide) rfl (by decide) 50 (by decide) rfl (hts (.fieldLink RX8 292 "FallBenchModel" "heapMany" "I") (by decide +kernel)) rfl (by rw [nS_o _ _ _ _ _ (by omega)]; exact hs1.1) dX8_lookAtHeaps_163 ?_
            refine g_iast C (by rw [hw]; decide) rfl (vp_in_nI (N := 30) (by omega) (by decide)) dX8_lookAtHeaps_166 ?_
            refine g_aload_n C dX8_lookAtHeaps_167 rfl ?_
            refine g_getr (j := 162) C F8 (by rw [hw]; decide) rfl (by decide) 49 (by decide) rfl (hts (.fieldLink RX8 97 "FallBenchModel" "hFirst" "[I") (by decide +kernel)) rfl (hR (49, 162) (by decide)) dX8_lookAtHeaps_168 ?_
            refine g_aload_n C dX8_lookAtHeaps_171 rfl ?_
            refine g_geti (v := nI (hps P Is k).1) C F8 (by rw [hw]; decide) rfl (by decide) 50 (by decide) rfl (hts (.fieldLink RX8 292 "FallBenchModel" "heapMany" "I") (by decide +kernel)) rfl (by rw [up2_n1 _ _ (by decide), nS_o _ _ _ _ _ (by omega)]; exact hs1.1) dX8_lookAtHeaps_172 ?_
            refine g_iload_n C dX8_lookAtHeaps_175 rfl ?_
            refine g_iast C (by rw [hw]; decide) rfl (vp_in_nI (N := 30) (Nat.lt_of_le_of_lt hle (by omega)) (by decide)) dX8_lookAtHeaps_176 ?_
            refine g_aload_n C dX8_lookAtHeaps_177 rfl ?_
            refine g_dup C dX8_lookAtHeaps_178 rfl ?_
            refine g_geti (v := nI (hps P Is k).1) C F8 (by rw [hw]; decide) rfl (by decide) 50 (by decide) rfl (hts (.fieldLink RX8 292 "FallBenchModel" "heapMany" "I") (by decide +kernel)) rfl (by rw [up2_n1 _ _ (by decide), up2_n1 _ _ (by decide), nS_o _ _ _ _ _ (by omega)]; exact hs1.1) dX8_lookAtHeaps_179 ?_
            refine g_iconst (v := 1) C dX8_lookAtHeaps_182 (by decide) ?_
            refine g_iadd C dX8_lookAtHeaps_183 ?_
            refine g_puti C F8 (by rw [hw]; decide) rfl (by decide) 50 (by decide) rfl (hts (.fieldLink RX8 292 "FallBenchModel" "heapMany" "I") (by decide +kernel)) rfl rfl rfl rfl dX8_lookAtHeaps_184 ?_
            refine g_iinc (v := nI (k + 1)) C V.2.1 dX8_lookAtHeaps_187 rfl (nI_succ k).symm (by decide) rfl ?_
            refine g_goto (tgt := 7) C dX8_lookAtHeaps_190 (by decide) ?_
            refine Gj_mem (M' := up2 (up2 (up2 (nS M1 k (cE P Is k) (cA P Is k) (cM P Is k)) 161 k (nI (hps P Is k).1)) 162 (hps P Is k).1 (nI k)) 134 50 (nI (hps P Is k).1 + 1)) (by rw [nI_clamp (show k < 2 ^ 31 by omega), nI_clamp (show (hps P Is k).1 < 2 ^ 31 from Nat.lt_of_le_of_lt hle (by omega))]) ?_
            exact ih (k + 1) _ _ (by omega) (fun x y h1 h2 h3 => by rw [up2_n (by omega), up2_n1 _ _ (by omega), up2_n1 _ _ (by omega)]; exact hFS x y h1 h2 h3) (hs1.new hE (seek_none hinv hv))
          | succ ee ih2 =>
            intro k hk hv
            have hkj : k ≠ j := by omega
            obtain ⟨p1, p2, p3, p4⟩ := hs1.2.1 k (by omega)
            refine g_iload_n C dX8_lookAtHeaps_74 rfl ?_
            refine g_iload_n C dX8_lookAtHeaps_75 rfl ?_
            refine g_icmp_ge (tgt := 145) C dX8_lookAtHeaps_76 (by decide) (fun c76 => absurd c76 (nI_ge (by omega) (by omega))) (fun c76 => ?_)
            refine g_aload_n C dX8_lookAtHeaps_79 rfl ?_
            refine g_getr (j := 161) C F8 (by rw [hw]; decide) rfl (by decide) 48 (by decide) rfl (hts (.fieldLink RX8 94 "FallBenchModel" "cHeap" "[I") (by decide +kernel)) rfl (hR (48, 161) (by decide)) dX8_lookAtHeaps_80 ?_
            refine g_iload_n C dX8_lookAtHeaps_83 rfl ?_
            refine g_iald (v := (-1)) C (by rw [hw]; decide) rfl (vp_in_nI (N := 30) (by omega) (by decide)) (by rw [nI_clamp (by omega)]; exact q4) dX8_lookAtHeaps_84 ?_
            refine g_if_ge (tgt := 145) C dX8_lookAtHeaps_85 (by decide) (fun c85 => absurd c85 (by decide)) (fun c85 => ?_)
            refine g_aload_n C dX8_lookAtHeaps_88 rfl ?_
            refine g_getr (j := 158) C F8 (by rw [hw]; decide) rfl (by decide) 45 (by decide) rfl (hts (.fieldLink RX8 85 "FallBenchModel" "cEnd" "[I") (by decide +kernel)) rfl (hR (45, 158) (by decide)) dX8_lookAtHeaps_89 ?_
            refine g_iload_n C dX8_lookAtHeaps_92 rfl ?_
            refine g_iald (v := cE P Is k) C (by rw [hw]; decide) rfl (vp_in_nI (N := 30) (by omega) (by decide)) (by rw [nI_clamp (by omega), nS_k _ _ _ _ _ hkj]; exact p1) dX8_lookAtHeaps_93 ?_
            refine g_aload_n C dX8_lookAtHeaps_94 rfl ?_
            refine g_geti (v := cE P Is j) C F8 (by rw [hw]; decide) rfl (by decide) 30 (by decide) rfl (hts (.fieldLink RX8 234 "FallBenchModel" "ended" "I") (by decide +kernel)) rfl e7 dX8_lookAtHeaps_95 ?_
            refine g_icmp_ne (tgt := 139) C dX8_lookAtHeaps_98 (by decide) (fun c98 => ?_) (fun c98 => ?_)
            · refine g_iinc (v := nI (k + 1)) C V.2.1 dX8_lookAtHeaps_139 rfl (nI_succ k).symm (by decide) rfl ?_
              refine g_goto (tgt := 74) C dX8_lookAtHeaps_142 (by decide) ?_
              exact ih2 (k + 1) (by omega) (fun r hr => by rcases Nat.lt_or_ge r k with y | y; exact hv r y; rw [show r = k by omega]; exact fun z => c98 z.1)
            · refine g_aload_n C dX8_lookAtHeaps_101 rfl ?_
              refine g_getr (j := 159) C F8 (by rw [hw]; decide) rfl (by decide) 46 (by decide) rfl (hts (.fieldLink RX8 88 "FallBenchModel" "cAct" "[I") (by decide +kernel)) rfl (hR (46, 159) (by decide)) dX8_lookAtHeaps_102 ?_
              refine g_iload_n C dX8_lookAtHeaps_105 rfl ?_
              refine g_iald (v := cA P Is k) C (by rw [hw]; decide) rfl (vp_in_nI (N := 30) (by omega) (by decide)) (by rw [nI_clamp (by omega), nS_k _ _ _ _ _ hkj]; exact p2) dX8_lookAtHeaps_106 ?_
              refine g_aload_n C dX8_lookAtHeaps_107 rfl ?_
              refine g_geti (v := cA P Is j) C F8 (by rw [hw]; decide) rfl (by decide) 31 (by decide) rfl (hts (.fieldLink RX8 237 "FallBenchModel" "endAct" "I") (by decide +kernel)) rfl e8 dX8_lookAtHeaps_108 ?_
              refine g_icmp_ne (tgt := 139) C dX8_lookAtHeaps_111 (by decide) (fun c111 => ?_) (fun c111 => ?_)
              · refine g_iinc (v := nI (k + 1)) C V.2.1 dX8_lookAtHeaps_139 rfl (nI_succ k).symm (by decide) rfl ?_
                refine g_goto (tgt := 74) C dX8_lookAtHeaps_142 (by decide) ?_
                exact ih2 (k + 1) (by omega) (fun r hr => by rcases Nat.lt_or_ge r k with y | y; exact hv r y; rw [show r = k by omega]; exact fun z => c111 z.2.1)
              · refine g_aload_n C dX8_lookAtHeaps_114 rfl ?_
                refine g_getr (j := 160) C F8 (by rw [hw]; decide) rfl (by decide) 47 (by decide) rfl (hts (.fieldLink RX8 91 "FallBenchModel" "cMaker" "[I") (by decide +kernel)) rfl (hR (47, 160) (by decide)) dX8_lookAtHeaps_115 ?_
                refine g_iload_n C dX8_lookAtHeaps_118 rfl ?_
                refine g_iald (v := cM P Is k) C (by rw [hw]; decide) rfl (vp_in_nI (N := 30) (by omega) (by decide)) (by rw [nI_clamp (by omega), nS_k _ _ _ _ _ hkj]; exact p3) dX8_lookAtHeaps_119 ?_
                refine g_aload_n C dX8_lookAtHeaps_120 rfl ?_
                refine g_geti (v := cM P Is j) C F8 (by rw [hw]; decide) rfl (by decide) 33 (by decide) rfl (hts (.fieldLink RX8 243 "FallBenchModel" "wrongMaker" "I") (by decide +kernel)) rfl e10 dX8_lookAtHeaps_121 ?_
                refine g_icmp_ne (tgt := 139) C dX8_lookAtHeaps_124 (by decide) (fun c124 => ?_) (fun c124 => ?_)
                · refine g_iinc (v := nI (k + 1)) C V.2.1 dX8_lookAtHeaps_139 rfl (nI_succ k).symm (by decide) rfl ?_
                  refine g_goto (tgt := 74) C dX8_lookAtHeaps_142 (by decide) ?_
                  exact ih2 (k + 1) (by omega) (fun r hr => by rcases Nat.lt_or_ge r k with y | y; exact hv r y; rw [show r = k by omega]; exact fun z => c124 z.2.2)
                · refine g_aload_n C dX8_lookAtHeaps_127 rfl ?_
                  refine g_getr (j := 161) C F8 (by rw [hw]; decide) rfl (by decide) 48 (by decide) rfl (hts (.fieldLink RX8 94 "FallBenchModel" "cHeap" "[I") (by decide +kernel)) rfl (hR (48, 161) (by decide)) dX8_lookAtHeaps_128 ?_
                  refine g_iload_n C dX8_lookAtHeaps_131 rfl ?_
                  refine g_aload_n C dX8_lookAtHeaps_132 rfl ?_
                  refine g_getr (j := 161) C F8 (by rw [hw]; decide) rfl (by decide) 48 (by decide) rfl (hts (.fieldLink RX8 94 "FallBenchModel" "cHeap" "[I") (by decide +kernel)) rfl (hR (48, 161) (by decide)) dX8_lookAtHeaps_133 ?_
                  refine g_iload_n C dX8_lookAtHeaps_136 rfl ?_
                  refine g_iald (v := (hps P Is j).2.2.2 k) C (by rw [hw]; decide) rfl (vp_in_nI (N := 30) (by omega) (by decide)) (by rw [nI_clamp (by omega), nS_k _ _ _ _ _ hkj]; exact p4) dX8_lookAtHeaps_137 ?_
                  refine g_iast C (by rw [hw]; decide) rfl (vp_in_nI (N := 30) (by omega) (by decide)) dX8_lookAtHeaps_138 ?_
                  refine g_iinc (v := nI (k + 1)) C V.2.1 dX8_lookAtHeaps_139 rfl (nI_succ k).symm (by decide) rfl ?_
                  refine g_goto (tgt := 74) C dX8_lookAtHeaps_142 (by decide) ?_
                  obtain ⟨d, d1, d2, d3⟩ := seek_found hinv (show k < j by omega) hE ⟨c98, c111, c124⟩
                  rw [d2, nI_clamp (show j < 2 ^ 31 by omega)]
                  exact found d (k + 1) d1 d3 hE (by omega)
        refine g_aload_n C dX8_lookAtHeaps_25 rfl ?_
        refine g_getr (j := 158) C F8 (by rw [hw]; decide) rfl (by decide) 45 (by decide) rfl (hts (.fieldLink RX8 85 "FallBenchModel" "cEnd" "[I") (by decide +kernel)) rfl (hR (45, 158) (by decide)) dX8_lookAtHeaps_26 ?_
        refine g_iload_n C dX8_lookAtHeaps_29 rfl ?_
        refine g_aload_n C dX8_lookAtHeaps_30 rfl ?_
        refine g_geti (v := cE P Is j) C F8 (by rw [hw]; decide) rfl (by decide) 30 (by decide) rfl (hts (.fieldLink RX8 234 "FallBenchModel" "ended" "I") (by decide +kernel)) rfl g7 dX8_lookAtHeaps_31 ?_
        refine g_iast C (by rw [hw]; decide) rfl (vp_in_nI (N := 30) (by omega) (by decide)) dX8_lookAtHeaps_34 ?_
        refine g_aload_n C dX8_lookAtHeaps_35 rfl ?_
        refine g_getr (j := 159) C F8 (by rw [hw]; decide) rfl (by decide) 46 (by decide) rfl (hts (.fieldLink RX8 88 "FallBenchModel" "cAct" "[I") (by decide +kernel)) rfl (hR (46, 159) (by decide)) dX8_lookAtHeaps_36 ?_
        refine g_iload_n C dX8_lookAtHeaps_39 rfl ?_
        refine g_aload_n C dX8_lookAtHeaps_40 rfl ?_
        refine g_geti (v := cA P Is j) C F8 (by rw [hw]; decide) rfl (by decide) 31 (by decide) rfl (hts (.fieldLink RX8 237 "FallBenchModel" "endAct" "I") (by decide +kernel)) rfl (by rw [up2_n1 _ _ (by decide)]; exact g8) dX8_lookAtHeaps_41 ?_
        refine g_iast C (by rw [hw]; decide) rfl (vp_in_nI (N := 30) (by omega) (by decide)) dX8_lookAtHeaps_44 ?_
        refine g_aload_n C dX8_lookAtHeaps_45 rfl ?_
        refine g_getr (j := 160) C F8 (by rw [hw]; decide) rfl (by decide) 47 (by decide) rfl (hts (.fieldLink RX8 91 "FallBenchModel" "cMaker" "[I") (by decide +kernel)) rfl (hR (47, 160) (by decide)) dX8_lookAtHeaps_46 ?_
        refine g_iload_n C dX8_lookAtHeaps_49 rfl ?_
        refine g_aload_n C dX8_lookAtHeaps_50 rfl ?_
        refine g_geti (v := cM P Is j) C F8 (by rw [hw]; decide) rfl (by decide) 33 (by decide) rfl (hts (.fieldLink RX8 243 "FallBenchModel" "wrongMaker" "I") (by decide +kernel)) rfl (by rw [up2_n1 _ _ (by decide), up2_n1 _ _ (by decide)]; exact g10) dX8_lookAtHeaps_51 ?_
        refine g_iast C (by rw [hw]; decide) rfl (vp_in_nI (N := 30) (by omega) (by decide)) dX8_lookAtHeaps_54 ?_
        refine g_aload_n C dX8_lookAtHeaps_55 rfl ?_
        refine g_getr (j := 161) C F8 (by rw [hw]; decide) rfl (by decide) 48 (by decide) rfl (hts (.fieldLink RX8 94 "FallBenchModel" "cHeap" "[I") (by decide +kernel)) rfl (hR (48, 161) (by decide)) dX8_lookAtHeaps_56 ?_
        refine g_iload_n C dX8_lookAtHeaps_59 rfl ?_
        refine g_iconst (v := (-1)) C dX8_lookAtHeaps_60 (by decide) ?_
        refine g_iast C (by rw [hw]; decide) rfl (vp_in_nI (N := 30) (by omega) (by decide)) dX8_lookAtHeaps_61 ?_
        refine Gj_mem (M' := (nS M1 j (cE P Is j) (cA P Is j) (cM P Is j))) (by rw [nI_clamp (show j < 2 ^ 31 by omega)]; rfl) ?_
        refine g_aload_n C dX8_lookAtHeaps_62 rfl ?_
        refine g_geti (v := cE P Is j) C F8 (by rw [hw]; decide) rfl (by decide) 30 (by decide) rfl (hts (.fieldLink RX8 234 "FallBenchModel" "ended" "I") (by decide +kernel)) rfl e7 dX8_lookAtHeaps_63 ?_
        refine g_if_ne (tgt := 72) C dX8_lookAtHeaps_66 (by decide) (fun c66 => ?_) (fun c66 => ?_)
        · refine g_iconst (v := 0) C dX8_lookAtHeaps_72 (by decide) ?_
          refine g_istore_n C V.2.1 dX8_lookAtHeaps_73 (by decide) rfl ?_
          exact seek c66 j 0 (by omega) (fun r hr => absurd hr (Nat.not_lt_zero r))
        · refine g_goto (tgt := 187) C dX8_lookAtHeaps_69 (by decide) ?_
          refine g_iinc (v := nI (j + 1)) C V.2.1 dX8_lookAtHeaps_187 rfl (nI_succ j).symm (by decide) rfl ?_
          refine g_goto (tgt := 7) C dX8_lookAtHeaps_190 (by decide) ?_
          exact ih (j + 1) _ _ (by omega) hFS (hs1.well c66)
      refine g_iload_n C dX8_lookAtHeaps_7 rfl ?_
      refine g_aload_n C dX8_lookAtHeaps_8 rfl ?_
      refine g_geti (v := nI n) C F8 (by rw [hw]; decide) rfl (by decide) 23 (by decide) rfl (hts (.fieldLink RX8 225 "FallBenchModel" "inputMany" "I") (by decide +kernel)) rfl (by rw [hF0 134 23 (by omega) (by omega) (by omega)]; exact h9) dX8_lookAtHeaps_9 ?_
      refine g_icmp_ge (tgt := 193) C dX8_lookAtHeaps_12 (by decide) (fun c12 => absurd c12 (nI_ge (by omega) (by omega))) (fun c12 => ?_)
      refine g_aload_n C dX8_lookAtHeaps_15 rfl ?_
      refine g_iload_n C dX8_lookAtHeaps_16 rfl ?_
      refine g_callVf C hts V (i := 134) (gX8_lookAtHeaps_X8_use) rfl hdX8_use (by decide) (c_X8_use hw hR (by omega) hA0.1 (hB j (by omega)).1) (by rw [hw]; decide) rfl (by decide) rfl rfl (Nat.le_of_ble_eq_true rfl) dX8_lookAtHeaps_17 ?_
      refine g_aload_n C dX8_lookAtHeaps_20 rfl ?_
      refine g_iload_n C dX8_lookAtHeaps_21 rfl ?_
      refine g_callVt C hts V (i := 134) (gX8_lookAtHeaps_X8_runOn) rfl hdX8_runOn (by decide) (c_X8_runOn hw hR ha (use_prog hP0) (use_in hA0) hL (hB j (by omega))) (by rw [hw]; decide) rfl (by decide) rfl rfl (Nat.le_of_ble_eq_true rfl) dX8_lookAtHeaps_22 (fun v M1 J1 R1 h => ?_)
      obtain ⟨h0, hJ, hR1, hF, hQ⟩ := h
      subst h0
      have hJ := Eq.symm hJ
      subst hJ
      have hR1 := Eq.symm hR1
      subst hR1
      try dsimp only at hF hQ
      show Gj X 0 0 w M1 J R 25 [some (.ref (w.2.1 134)), some (.int (nI a)), some (.int (nI j)), z] []
      exact back M1 (use_rF hF) hQ _
  refine g_aload_n C dX8_lookAtHeaps_0 rfl ?_
  refine g_iconst (v := 0) C dX8_lookAtHeaps_1 (by decide) ?_
  refine g_puti C F8 (by rw [hw]; decide) rfl (by decide) 50 (by decide) rfl (hts (.fieldLink RX8 292 "FallBenchModel" "heapMany" "I") (by decide +kernel)) rfl rfl rfl rfl dX8_lookAtHeaps_2 ?_
  refine g_iconst (v := 0) C dX8_lookAtHeaps_5 (by decide) ?_
  refine g_istore_n C V.2.1 dX8_lookAtHeaps_6 (by decide) rfl ?_
  exact loop n 0 _ _ (by omega) (fun x y h1 h2 h3 => up2_n (by omega)) ⟨by rw [up2_eq]; rfl, fun k hk => absurd hk (Nat.not_lt_zero k), fun k hk => absurd hk (Nat.not_lt_zero k)⟩
