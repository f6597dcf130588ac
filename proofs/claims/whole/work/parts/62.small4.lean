/-! small of the reference -/
theorem lowN_s (P : List act4) (e a m : Int32) (n : Nat) (I : List Int32) : lowN P e a m (n + 1) I = (lowN P e a m n I).set n (lowV P e a m (lowN P e a m n I) n) := rfl
theorem getD_set8 (I : List Int32) {k : Nat} (v : Int32) (h : k < I.length) : (I.set k v).getD k 0 = v := by
  simp [List.getD, List.getElem?_set_self h]

set_option maxHeartbeats 4000000 in
set_option maxRecDepth 100000 in
theorem c_X8_small {l : Launch} {D : va_G} {w : gw} {M : Nat → Nat → Int32} {J : Nat → Nat → Int64} {R : Nat → Nat → Option Nat} (hw : w.1 = 166) (hR : LayM R) {s n i : Nat} {P : List act4} {I : List Int32} (hs : s < 3) (hn : n ≤ 30) (h9 : M 134 23 = nI n) (hi : i < n) (hP : progN M s P) (hL : okL2 P) (hA : inAtM M i I) (hB : okI I) : Ct l yX8_small wsX8_small ({ frames := 5, cells := 0, slots := 0, locals := 120 } : Room) D w [.ref (w.2.1 134), .int (nI s), .int (nI i)] (M, J, R) (fun v u => v = some (.int (if RUN P I 0 8 = -1 then -1 else nI (SMALL P I).length)) ∧ u.2.1 = J ∧ u.2.2 = R ∧ zF M u.1 ∧ (¬ RUN P I 0 8 = -1 → u.1 134 53 = nI (SMALL P I).length ∧ (∀ x, x < (SMALL P I).length → u.1 163 x = (SMALL P I).getD x 0) ∧ (∀ x, x < (SMALL P I).length → u.1 164 x = (LOWL P I).getD x 0)) ∧ (RUN P I 0 8 = -1 → ∀ x y, ¬ (x = 134 ∧ (29 ≤ y ∧ y ≤ 38 ∨ 54 ≤ y ∧ y ≤ 56)) → ¬ (148 ≤ x ∧ x ≤ 152) → u.1 x y = M x y)) := by
  refine Cg.of (own := RX8) (cc := cX8_small) (maxL := 5) (ret := (some .int)) 2 (by decide) rfl rfl (Nat.le_of_ble_eq_true rfl) (fun X C hts V Rr => ?_)
  have F8 : FW X 8 := fun q h => hts q (List.mem_cons_of_mem _ (List.mem_append_right _ h))
  show Gj X 0 0 w M J R 0 [some (.ref (w.2.1 134)), some (.int (nI s)), some (.int (nI i)), none, none] []
  have hoS : okI (SMALL P I) := hB.all 25
  have h24 := hoS.1
  have hcS : okc P (RUN P I 0 7) (RUN P I 0 8) (RUN P I 0 10) (SMALL P I) := okc_all 25 I ⟨rfl, rfl, rfl⟩
  have low : ¬ RUN P I 0 8 = -1 → ∀ dd k M0 (x : Int32), k + dd = (SMALL P I).length → zF M M0 → M0 134 54 = RUN P I 0 7 → M0 134 55 = RUN P I 0 8 → M0 134 56 = RUN P I 0 10 → M0 134 53 = nI (SMALL P I).length → (∀ x, x < (SMALL P I).length → M0 163 x = (SMALL P I).getD x 0) → inN M0 (lowN P (RUN P I 0 7) (RUN P I 0 8) (RUN P I 0 10) k (SMALL P I)) → (∀ x, x < k → M0 164 x = (lowN P (RUN P I 0 7) (RUN P I 0 8) (RUN P I 0 10) k (SMALL P I)).getD x 0) → Gj X 0 0 w M0 J R 130 [some (.ref (w.2.1 134)), some (.int (nI s)), some (.int (nI i)), some (.int x), some (.int (nI k))] [] := by
    intro hE dd
    induction dd with
    | zero =>
      intro k M0 x hk hF0 w1 w2 w3 s1 s2 hI0 hlo
      obtain rfl : k = (SMALL P I).length := by omega
      refine g_iload C dX8_small_130 rfl ?_
      refine g_aload_n C dX8_small_132 rfl ?_
      refine g_geti (v := nI (SMALL P I).length) C F8 (by rw [hw]; decide) rfl (by decide) 53 (by decide) rfl (hts (.fieldLink RX8 106 "FallBenchModel" "smallMany" "I") (by decide +kernel)) rfl s1 dX8_small_133 ?_
      refine g_icmp_ge (tgt := 189) C dX8_small_136 (by decide) (fun c136 => ?_) (fun c136 => absurd c136 (not_not_intro (nI_le (Nat.le_refl _) (by omega))))
      refine g_aload_n C dX8_small_189 rfl ?_
      refine g_geti (v := nI (SMALL P I).length) C F8 (by rw [hw]; decide) rfl (by decide) 53 (by decide) rfl (hts (.fieldLink RX8 106 "FallBenchModel" "smallMany" "I") (by decide +kernel)) rfl s1 dX8_small_190 ?_
      exact g_iret C Rr ⟨rfl, ⟨by rw [if_neg hE], rfl, rfl, hF0, fun _ => ⟨s1, s2, hlo⟩, fun z => absurd z hE⟩⟩ dX8_small_193
    | succ dd ih =>
      intro k M0 x hk hF0 w1 w2 w3 s1 s2 hI0 hlo
      obtain ⟨hok, hlen⟩ := hoS.low (P := P) (e := RUN P I 0 7) (a := RUN P I 0 8) (m := RUN P I 0 10) k (by omega)
      have hck := okc_low hcS hoS k (by omega)
      obtain ⟨o, ho, eo⟩ := byte_nat hok (k := k) (by omega)
      obtain ⟨L0, hL0e⟩ : ∃ L0, L0 = lowN P (RUN P I 0 7) (RUN P I 0 8) (RUN P I 0 10) k (SMALL P I) := ⟨_, rfl⟩
      have hnext : lowN P (RUN P I 0 7) (RUN P I 0 8) (RUN P I 0 10) (k + 1) (SMALL P I) = L0.set k (lowV P (RUN P I 0 7) (RUN P I 0 8) (RUN P I 0 10) L0 k) := by rw [hL0e]; rfl
      rw [← hL0e] at hI0 hlo hok hlen hck eo
      have fin : ∀ Mv v, zF M Mv → Mv 134 54 = RUN P I 0 7 → Mv 134 55 = RUN P I 0 8 → Mv 134 56 = RUN P I 0 10 → Mv 134 53 = nI (SMALL P I).length → (∀ x, x < (SMALL P I).length → Mv 163 x = (SMALL P I).getD x 0) → inN Mv (L0.set k (nI v)) → (∀ x, x < k → Mv 164 x = L0.getD x 0) → lowV P (RUN P I 0 7) (RUN P I 0 8) (RUN P I 0 10) L0 k = nI v → Gj X 0 0 w Mv J R 169 [some (.ref (w.2.1 134)), some (.int (nI s)), some (.int (nI i)), some (.int x), some (.int (nI k))] [] := by
        intro Mv v hFv y1 y2 y3 t1 t2 hIv hlv hv
        refine g_aload_n C dX8_small_169 rfl ?_
        refine g_getr (j := 164) C F8 (by rw [hw]; decide) rfl (by decide) 52 (by decide) rfl (hts (.fieldLink RX8 103 "FallBenchModel" "lowBytes" "[I") (by decide +kernel)) rfl (hR (52, 164) (by decide)) dX8_small_170 ?_
        refine g_iload C dX8_small_173 rfl ?_
        refine g_aload_n C dX8_small_175 rfl ?_
        refine g_getr (j := 148) C F8 (by rw [hw]; decide) rfl (by decide) 24 (by decide) rfl (hts (.fieldLink RX8 55 "FallBenchModel" "bytes" "[I") (by decide +kernel)) rfl (hR (24, 148) (by decide)) dX8_small_176 ?_
        refine g_iload C dX8_small_179 rfl ?_
        refine g_iald (v := nI v) C (by rw [hw]; decide) rfl (vp_in_nI (N := 24) (n := k) (by omega) (by decide)) (by rw [nI_clamp (by omega), hIv.2 k (by rw [List.length_set]; omega), getD_set8 L0 _ (by omega)]) dX8_small_181 ?_
        refine g_iast C (by rw [hw]; decide) rfl (vp_in_nI (N := 24) (n := k) (by omega) (by decide)) dX8_small_182 ?_
        refine g_iinc (v := nI (k + 1)) C V.2.1 dX8_small_183 rfl (nI_succ k).symm (by decide) rfl ?_
        refine g_goto (tgt := 130) C dX8_small_186 (by decide) ?_
        rw [nI_clamp (show k < 2 ^ 31 by omega)]
        exact ih (k + 1) _ _ (by omega) (fun x y h1 h2 h3 h4 => by rw [up2_n1 _ _ h4]; exact hFv x y h1 h2 h3 h4) (by rw [up2_n1 _ _ (by decide)]; exact y1) (by rw [up2_n1 _ _ (by decide)]; exact y2) (by rw [up2_n1 _ _ (by decide)]; exact y3) (by rw [up2_n1 _ _ (by decide)]; exact t1) (fun x hx => by rw [up2_n1 _ _ (by decide)]; exact t2 x hx) (by rw [hnext, hv]; exact ⟨by rw [up2_n1 _ _ (by decide)]; exact hIv.1, fun x hx => by rw [up2_n1 _ _ (by decide)]; exact hIv.2 x hx⟩) (fun x hx => by rw [hnext, hv]; exact (if hxk : x = k then by rw [hxk, up2_eq, getD_set8 L0 _ (by omega)] else by rw [up2_n2 _ _ hxk, getD_set L0 _ hxk]; exact hlv x (by omega)))
      have inner : ∀ ee v Mv, v + ee = o → zF M Mv → Mv 134 54 = RUN P I 0 7 → Mv 134 55 = RUN P I 0 8 → Mv 134 56 = RUN P I 0 10 → Mv 134 53 = nI (SMALL P I).length → (∀ x, x < (SMALL P I).length → Mv 163 x = (SMALL P I).getD x 0) → inN Mv (L0.set k (nI v)) → (∀ x, x < k → Mv 164 x = L0.getD x 0) → hfd (fun v => okc P (RUN P I 0 7) (RUN P I 0 8) (RUN P I 0 10) (L0.set k (nI v))) v = none → Gj X 0 0 w Mv J R 147 [some (.ref (w.2.1 134)), some (.int (nI s)), some (.int (nI i)), some (.int x), some (.int (nI k))] [] := by
        intro ee
        induction ee with
        | zero =>
          intro v Mv hv hFv y1 y2 y3 t1 t2 hIv hlv hno
          obtain rfl : v = o := by omega
          have hsl : L0.set k (nI v) = L0 := by rw [← eo]; exact set_getD9 L0 (by omega)
          have hyes : okc P (RUN P I 0 7) (RUN P I 0 8) (RUN P I 0 10) (L0.set k (nI v)) := by rw [hsl]; exact hck
          refine g_aload_n C dX8_small_147 rfl ?_
          refine g_iload_n C dX8_small_148 rfl ?_
          refine g_callVt C hts V (i := 134) (gX8_small_X8_isWanted) rfl hdX8_isWanted (by decide) (c_X8_isWanted hw hR hs (hFv.prog hP) hL hIv (hok.set (by omega) k) y1 y2 y3) (by rw [hw]; decide) rfl (by decide) rfl rfl (Nat.le_of_ble_eq_true rfl) dX8_small_149 (fun v M1 J1 R1 h => ?_)
          obtain ⟨h0, hJ, hR1, hF⟩ := h
          subst h0
          have hJ := Eq.symm hJ
          subst hJ
          have hR1 := Eq.symm hR1
          subst hR1
          try dsimp only at hF
          have hF1 : zF M M1 := fun x y h1 h2 h3 h4 => (nF_rF hF x y (by omega) h2).trans (hFv x y h1 h2 h3 h4)
          have v1 : M1 134 54 = RUN P I 0 7 := (hF 134 54 (by omega) (by omega)).trans y1
          have v2 : M1 134 55 = RUN P I 0 8 := (hF 134 55 (by omega) (by omega)).trans y2
          have v3 : M1 134 56 = RUN P I 0 10 := (hF 134 56 (by omega) (by omega)).trans y3
          have u1 : M1 134 53 = nI (SMALL P I).length := (hF 134 53 (by omega) (by omega)).trans t1
          have u2 : ∀ x, x < (SMALL P I).length → M1 163 x = (SMALL P I).getD x 0 := fun x hx => (hF 163 x (by omega) (by omega)).trans (t2 x hx)
          have hI1 := hIv.F hF
          have hl1 : ∀ x, x < k → M1 164 x = L0.getD x 0 := fun x hx => (hF 164 x (by omega) (by omega)).trans (hlv x hx)
          show Gj X 0 0 w M1 J R 152 [some (.ref (w.2.1 134)), some (.int (nI s)), some (.int (nI i)), some (.int x), some (.int (nI k))] [.int (if okc P (RUN P I 0 7) (RUN P I 0 8) (RUN P I 0 10) (L0.set k (nI v)) then 1 else 0)]
          refine g_if_ne (tgt := 169) C dX8_small_152 (by decide) (fun c152 => ?_) (fun c152 => absurd c152 (by rw [if_pos hyes]; decide))
          exact fin M1 v hF1 v1 v2 v3 u1 u2 hI1 hl1 (by rw [lowV, eo, nI_clamp (by omega), hno])
        | succ ee ih2 =>
          intro v Mv hv hFv y1 y2 y3 t1 t2 hIv hlv hno
          refine g_aload_n C dX8_small_147 rfl ?_
          refine g_iload_n C dX8_small_148 rfl ?_
          refine g_callVt C hts V (i := 134) (gX8_small_X8_isWanted) rfl hdX8_isWanted (by decide) (c_X8_isWanted hw hR hs (hFv.prog hP) hL hIv (hok.set (by omega) k) y1 y2 y3) (by rw [hw]; decide) rfl (by decide) rfl rfl (Nat.le_of_ble_eq_true rfl) dX8_small_149 (fun v M1 J1 R1 h => ?_)
          obtain ⟨h0, hJ, hR1, hF⟩ := h
          subst h0
          have hJ := Eq.symm hJ
          subst hJ
          have hR1 := Eq.symm hR1
          subst hR1
          try dsimp only at hF
          have hF1 : zF M M1 := fun x y h1 h2 h3 h4 => (nF_rF hF x y (by omega) h2).trans (hFv x y h1 h2 h3 h4)
          have v1 : M1 134 54 = RUN P I 0 7 := (hF 134 54 (by omega) (by omega)).trans y1
          have v2 : M1 134 55 = RUN P I 0 8 := (hF 134 55 (by omega) (by omega)).trans y2
          have v3 : M1 134 56 = RUN P I 0 10 := (hF 134 56 (by omega) (by omega)).trans y3
          have u1 : M1 134 53 = nI (SMALL P I).length := (hF 134 53 (by omega) (by omega)).trans t1
          have u2 : ∀ x, x < (SMALL P I).length → M1 163 x = (SMALL P I).getD x 0 := fun x hx => (hF 163 x (by omega) (by omega)).trans (t2 x hx)
          have hI1 := hIv.F hF
          have hl1 : ∀ x, x < k → M1 164 x = L0.getD x 0 := fun x hx => (hF 164 x (by omega) (by omega)).trans (hlv x hx)
          show Gj X 0 0 w M1 J R 152 [some (.ref (w.2.1 134)), some (.int (nI s)), some (.int (nI i)), some (.int x), some (.int (nI k))] [.int (if okc P (RUN P I 0 7) (RUN P I 0 8) (RUN P I 0 10) (L0.set k (nI v)) then 1 else 0)]
          refine g_if_ne (tgt := 169) C dX8_small_152 (by decide) (fun c152 => ?_) (fun c152 => ?_)
          · have hyes : okc P (RUN P I 0 7) (RUN P I 0 8) (RUN P I 0 10) (L0.set k (nI v)) := Classical.byContradiction (fun z => c152 (if_neg z))
            exact fin M1 v hF1 v1 v2 v3 u1 u2 hI1 hl1 (by rw [lowV, eo, nI_clamp (by omega), hfd_up (n := v + 1) (h := v) (by rw [hfd_s hno, if_pos hyes]) o (by omega)])
          · have hnot : ¬ okc P (RUN P I 0 7) (RUN P I 0 8) (RUN P I 0 10) (L0.set k (nI v)) := fun z => by rw [if_pos z] at c152; exact absurd c152 (by decide)
            refine g_aload_n C dX8_small_155 rfl ?_
            refine g_getr (j := 148) C F8 (by rw [hw]; decide) rfl (by decide) 24 (by decide) rfl (hts (.fieldLink RX8 55 "FallBenchModel" "bytes" "[I") (by decide +kernel)) rfl (hR (24, 148) (by decide)) dX8_small_156 ?_
            refine g_iload C dX8_small_159 rfl ?_
            refine g_dup2 C dX8_small_161 rfl rfl ?_
            refine g_iald (v := nI v) C (by rw [hw]; decide) rfl (vp_in_nI (N := 24) (n := k) (by omega) (by decide)) (by rw [nI_clamp (by omega), hI1.2 k (by rw [List.length_set]; omega), getD_set8 L0 _ (by omega)]) dX8_small_162 ?_
            refine g_iconst (v := 1) C dX8_small_163 (by decide) ?_
            refine g_iadd C dX8_small_164 ?_
            refine g_iast C (by rw [hw]; decide) rfl (vp_in_nI (N := 24) (n := k) (by omega) (by decide)) dX8_small_165 ?_
            refine g_goto (tgt := 147) C dX8_small_166 (by decide) ?_
            exact ih2 (v + 1) _ (by omega) (fun x y h1 h2 h3 h4 => by rw [up2_n1 _ _ (by omega)]; exact hF1 x y h1 h2 h3 h4) (by rw [up2_n1 _ _ (by decide)]; exact v1) (by rw [up2_n1 _ _ (by decide)]; exact v2) (by rw [up2_n1 _ _ (by decide)]; exact v3) (by rw [up2_n1 _ _ (by decide)]; exact u1) (fun x hx => by rw [up2_n1 _ _ (by decide)]; exact u2 x hx) (by have q := hI1.set (k := k) (by rw [List.length_set]; omega) (nI v + 1); rw [List.set_set, ← nI_succ] at q; rw [nI_clamp (show k < 2 ^ 31 by omega), ← nI_succ]; exact q) (fun x hx => by rw [up2_n1 _ _ (by decide)]; exact hl1 x hx) (by rw [hfd_s hno, if_neg hnot])
      refine g_iload C dX8_small_130 rfl ?_
      refine g_aload_n C dX8_small_132 rfl ?_
      refine g_geti (v := nI (SMALL P I).length) C F8 (by rw [hw]; decide) rfl (by decide) 53 (by decide) rfl (hts (.fieldLink RX8 106 "FallBenchModel" "smallMany" "I") (by decide +kernel)) rfl s1 dX8_small_133 ?_
      refine g_icmp_ge (tgt := 189) C dX8_small_136 (by decide) (fun c136 => absurd c136 (nI_ge (by omega) (by omega))) (fun c136 => ?_)
      refine g_aload_n C dX8_small_139 rfl ?_
      refine g_getr (j := 148) C F8 (by rw [hw]; decide) rfl (by decide) 24 (by decide) rfl (hts (.fieldLink RX8 55 "FallBenchModel" "bytes" "[I") (by decide +kernel)) rfl (hR (24, 148) (by decide)) dX8_small_140 ?_
      refine g_iload C dX8_small_143 rfl ?_
      refine g_iconst (v := 0) C dX8_small_145 (by decide) ?_
      refine g_iast C (by rw [hw]; decide) rfl (vp_in_nI (N := 24) (n := k) (by omega) (by decide)) dX8_small_146 ?_
      rw [nI_clamp (show k < 2 ^ 31 by omega)]
      exact inner o 0 _ (by omega) (fun x y h1 h2 h3 h4 => by rw [up2_n1 _ _ (by omega)]; exact hF0 x y h1 h2 h3 h4) (by rw [up2_n1 _ _ (by decide)]; exact w1) (by rw [up2_n1 _ _ (by decide)]; exact w2) (by rw [up2_n1 _ _ (by decide)]; exact w3) (by rw [up2_n1 _ _ (by decide)]; exact s1) (fun x hx => by rw [up2_n1 _ _ (by decide)]; exact s2 x hx) (hI0.set (by omega) (nI 0)) (fun x hx => by rw [up2_n1 _ _ (by decide)]; exact hlo x hx) rfl
  have copy : ¬ RUN P I 0 8 = -1 → ∀ dd k M0 (x : Int32), k + dd = (SMALL P I).length → zF M M0 → M0 134 54 = RUN P I 0 7 → M0 134 55 = RUN P I 0 8 → M0 134 56 = RUN P I 0 10 → M0 134 53 = nI (SMALL P I).length → inN M0 (SMALL P I) → (∀ x, x < k → M0 163 x = (SMALL P I).getD x 0) → Gj X 0 0 w M0 J R 98 [some (.ref (w.2.1 134)), some (.int (nI s)), some (.int (nI i)), some (.int x), some (.int (nI k))] [] := by
    intro hE dd
    induction dd with
    | zero =>
      intro k M0 x hk hF0 w1 w2 w3 s1 hI0 hlo
      obtain rfl : k = (SMALL P I).length := by omega
      refine g_iload C dX8_small_98 rfl ?_
      refine g_aload_n C dX8_small_100 rfl ?_
      refine g_geti (v := nI (SMALL P I).length) C F8 (by rw [hw]; decide) rfl (by decide) 53 (by decide) rfl (hts (.fieldLink RX8 106 "FallBenchModel" "smallMany" "I") (by decide +kernel)) rfl s1 dX8_small_101 ?_
      refine g_icmp_ge (tgt := 127) C dX8_small_104 (by decide) (fun c104 => ?_) (fun c104 => absurd c104 (not_not_intro (nI_le (Nat.le_refl _) (by omega))))
      refine g_iconst (v := 0) C dX8_small_127 (by decide) ?_
      refine g_istore C V.2.1 dX8_small_128 (by decide) rfl ?_
      exact low hE (SMALL P I).length 0 M0 _ (by omega) hF0 w1 w2 w3 s1 hlo hI0 (fun x hx => absurd hx (by omega))
    | succ dd ih =>
      intro k M0 x hk hF0 w1 w2 w3 s1 hI0 hlo
      refine g_iload C dX8_small_98 rfl ?_
      refine g_aload_n C dX8_small_100 rfl ?_
      refine g_geti (v := nI (SMALL P I).length) C F8 (by rw [hw]; decide) rfl (by decide) 53 (by decide) rfl (hts (.fieldLink RX8 106 "FallBenchModel" "smallMany" "I") (by decide +kernel)) rfl s1 dX8_small_101 ?_
      refine g_icmp_ge (tgt := 127) C dX8_small_104 (by decide) (fun c104 => absurd c104 (nI_ge (by omega) (by omega))) (fun c104 => ?_)
      refine g_aload_n C dX8_small_107 rfl ?_
      refine g_getr (j := 163) C F8 (by rw [hw]; decide) rfl (by decide) 51 (by decide) rfl (hts (.fieldLink RX8 100 "FallBenchModel" "smallBytes" "[I") (by decide +kernel)) rfl (hR (51, 163) (by decide)) dX8_small_108 ?_
      refine g_iload C dX8_small_111 rfl ?_
      refine g_aload_n C dX8_small_113 rfl ?_
      refine g_getr (j := 148) C F8 (by rw [hw]; decide) rfl (by decide) 24 (by decide) rfl (hts (.fieldLink RX8 55 "FallBenchModel" "bytes" "[I") (by decide +kernel)) rfl (hR (24, 148) (by decide)) dX8_small_114 ?_
      refine g_iload C dX8_small_117 rfl ?_
      refine g_iald (v := (SMALL P I).getD k 0) C (by rw [hw]; decide) rfl (vp_in_nI (N := 24) (n := k) (by omega) (by decide)) (by rw [nI_clamp (by omega)]; exact hI0.2 k (by omega)) dX8_small_119 ?_
      refine g_iast C (by rw [hw]; decide) rfl (vp_in_nI (N := 24) (n := k) (by omega) (by decide)) dX8_small_120 ?_
      refine g_iinc (v := nI (k + 1)) C V.2.1 dX8_small_121 rfl (nI_succ k).symm (by decide) rfl ?_
      refine g_goto (tgt := 98) C dX8_small_124 (by decide) ?_
      rw [nI_clamp (show k < 2 ^ 31 by omega)]
      exact ih (k + 1) _ _ (by omega) (fun x y h1 h2 h3 h4 => by rw [up2_n1 _ _ h3]; exact hF0 x y h1 h2 h3 h4) (by rw [up2_n1 _ _ (by decide)]; exact w1) (by rw [up2_n1 _ _ (by decide)]; exact w2) (by rw [up2_n1 _ _ (by decide)]; exact w3) (by rw [up2_n1 _ _ (by decide)]; exact s1) ⟨by rw [up2_n1 _ _ (by decide)]; exact hI0.1, fun x hx => by rw [up2_n1 _ _ (by decide)]; exact hI0.2 x hx⟩ (fun x hx => (if hxk : x = k then by rw [hxk, up2_eq] else by rw [up2_n2 _ _ hxk]; exact hlo x (by omega)))
  have outer : ¬ RUN P I 0 8 = -1 → ∀ ff I0 M0 z, I0.length < ff → okI I0 → (∀ x y, ¬ (x = 134 ∧ (29 ≤ y ∧ y ≤ 38 ∨ 54 ≤ y ∧ y ≤ 56)) → ¬ (148 ≤ x ∧ x ≤ 152) → M0 x y = M x y) → M0 134 54 = RUN P I 0 7 → M0 134 55 = RUN P I 0 8 → M0 134 56 = RUN P I 0 10 → inN M0 I0 → sAll P (RUN P I 0 7) (RUN P I 0 8) (RUN P I 0 10) ff I0 = SMALL P I → Gj X 0 0 w M0 J R 45 [some (.ref (w.2.1 134)), some (.int (nI s)), some (.int (nI i)), some (.int 1), z] [] := by
    intro hE ff
    induction ff with
    | zero => intro I0 M0 z hz; exact absurd hz (by omega)
    | succ ff ih =>
      intro I0 M0 z hlt hok0 hF0 w1 w2 w3 hI0 hS
      have hl0 := hok0.1
      have fin : ∀ Mv z, okI (sPass P (RUN P I 0 7) (RUN P I 0 8) (RUN P I 0 10) 24 I0 0 false).1 → (∀ x y, ¬ (x = 134 ∧ (29 ≤ y ∧ y ≤ 38 ∨ 54 ≤ y ∧ y ≤ 56)) → ¬ (148 ≤ x ∧ x ≤ 152) → Mv x y = M x y) → Mv 134 54 = RUN P I 0 7 → Mv 134 55 = RUN P I 0 8 → Mv 134 56 = RUN P I 0 10 → inN Mv (sPass P (RUN P I 0 7) (RUN P I 0 8) (RUN P I 0 10) 24 I0 0 false).1 → Gj X 0 0 w Mv J R 45 [some (.ref (w.2.1 134)), some (.int (nI s)), some (.int (nI i)), some (.int (b2i (sPass P (RUN P I 0 7) (RUN P I 0 8) (RUN P I 0 10) 24 I0 0 false).2)), z] [] := by
        intro Mv z hok1 hFv y1 y2 y3 hIv
        by_cases hb : (sPass P (RUN P I 0 7) (RUN P I 0 8) (RUN P I 0 10) 24 I0 0 false).2 = true
        · rw [show b2i (sPass P (RUN P I 0 7) (RUN P I 0 8) (RUN P I 0 10) 24 I0 0 false).2 = 1 from if_pos hb]
          exact ih _ Mv _ (by rcases (sPass_len P (RUN P I 0 7) (RUN P I 0 8) (RUN P I 0 10) 24 I0 0 false).2 hb with q | q; cases q; omega) hok1 hFv y1 y2 y3 hIv (by rw [← hS]; simp only [sAll, if_pos hb])
        · have hb0 : b2i (sPass P (RUN P I 0 7) (RUN P I 0 8) (RUN P I 0 10) 24 I0 0 false).2 = 0 := if_neg hb
          have hA2 : (sPass P (RUN P I 0 7) (RUN P I 0 8) (RUN P I 0 10) 24 I0 0 false).1 = SMALL P I := by rw [← hS]; simp only [sAll, if_neg hb]
          rw [hA2] at hIv
          refine g_iload_n C dX8_small_45 rfl ?_
          refine g_if_eq (tgt := 87) C dX8_small_46 (by decide) (fun c46 => ?_) (fun c46 => absurd c46 (not_not_intro hb0))
          refine g_aload_n C dX8_small_87 rfl ?_
          refine g_aload_n C dX8_small_88 rfl ?_
          refine g_geti (v := nI (SMALL P I).length) C F8 (by rw [hw]; decide) rfl (by decide) 29 (by decide) rfl (hts (.fieldLink RX8 231 "FallBenchModel" "byteMany" "I") (by decide +kernel)) rfl hIv.1 dX8_small_89 ?_
          refine g_puti C F8 (by rw [hw]; decide) rfl (by decide) 53 (by decide) rfl (hts (.fieldLink RX8 106 "FallBenchModel" "smallMany" "I") (by decide +kernel)) rfl rfl rfl rfl dX8_small_92 ?_
          refine g_iconst (v := 0) C dX8_small_95 (by decide) ?_
          refine g_istore C V.2.1 dX8_small_96 (by decide) rfl ?_
          exact copy hE (SMALL P I).length 0 _ _ (by omega) (fun x y h1 h2 h3 h4 => by rw [up2_n (by omega)]; exact hFv x y (by omega) h2) (by rw [up2_n2 _ _ (by decide)]; exact y1) (by rw [up2_n2 _ _ (by decide)]; exact y2) (by rw [up2_n2 _ _ (by decide)]; exact y3) (by rw [up2_eq]) ⟨by rw [up2_n2 _ _ (by decide)]; exact hIv.1, fun x hx => by rw [up2_n1 _ _ (by decide)]; exact hIv.2 x hx⟩ (fun x hx => absurd hx (by omega))
      have pass : ∀ f k b J0 Mv, J0.length - k ≤ f → k ≤ J0.length → okI J0 → (∀ x y, ¬ (x = 134 ∧ (29 ≤ y ∧ y ≤ 38 ∨ 54 ≤ y ∧ y ≤ 56)) → ¬ (148 ≤ x ∧ x ≤ 152) → Mv x y = M x y) → Mv 134 54 = RUN P I 0 7 → Mv 134 55 = RUN P I 0 8 → Mv 134 56 = RUN P I 0 10 → inN Mv J0 → sPass P (RUN P I 0 7) (RUN P I 0 8) (RUN P I 0 10) f J0 k b = (sPass P (RUN P I 0 7) (RUN P I 0 8) (RUN P I 0 10) 24 I0 0 false) → Gj X 0 0 w Mv J R 54 [some (.ref (w.2.1 134)), some (.int (nI s)), some (.int (nI i)), some (.int (b2i b)), some (.int (nI k))] [] := by
        intro f
        induction f with
        | zero =>
          intro k b J0 Mv hf hk hokv hFv y1 y2 y3 hIv hE9
          have hlv := hokv.1
          obtain rfl : k = J0.length := by omega
          refine g_iload C dX8_small_54 rfl ?_
          refine g_aload_n C dX8_small_56 rfl ?_
          refine g_geti (v := nI J0.length) C F8 (by rw [hw]; decide) rfl (by decide) 29 (by decide) rfl (hts (.fieldLink RX8 231 "FallBenchModel" "byteMany" "I") (by decide +kernel)) rfl hIv.1 dX8_small_57 ?_
          refine g_icmp_ge (tgt := 84) C dX8_small_60 (by decide) (fun c60 => ?_) (fun c60 => absurd c60 (not_not_intro (nI_le (Nat.le_refl _) (by omega))))
          refine g_goto (tgt := 45) C dX8_small_84 (by decide) ?_
          have e1 : J0 = (sPass P (RUN P I 0 7) (RUN P I 0 8) (RUN P I 0 10) 24 I0 0 false).1 := by rw [← hE9]; rfl
          have e2 : b = (sPass P (RUN P I 0 7) (RUN P I 0 8) (RUN P I 0 10) 24 I0 0 false).2 := by rw [← hE9]; rfl
          rw [e1] at hokv hIv
          rw [e2]
          exact fin Mv _ hokv hFv y1 y2 y3 hIv
        | succ f ihf =>
          intro k b J0 Mv hf hk hokv hFv y1 y2 y3 hIv hE9
          have hlv := hokv.1
          refine g_iload C dX8_small_54 rfl ?_
          refine g_aload_n C dX8_small_56 rfl ?_
          refine g_geti (v := nI J0.length) C F8 (by rw [hw]; decide) rfl (by decide) 29 (by decide) rfl (hts (.fieldLink RX8 231 "FallBenchModel" "byteMany" "I") (by decide +kernel)) rfl hIv.1 dX8_small_57 ?_
          refine g_icmp_ge (tgt := 84) C dX8_small_60 (by decide) (fun c60 => ?_) (fun c60 => ?_)
          · refine g_goto (tgt := 45) C dX8_small_84 (by decide) ?_
            have hkl : ¬ k < J0.length := fun z => absurd c60 (nI_ge z (by omega))
            have e1 : J0 = (sPass P (RUN P I 0 7) (RUN P I 0 8) (RUN P I 0 10) 24 I0 0 false).1 := by rw [← hE9]; simp only [sPass, if_neg hkl]
            have e2 : b = (sPass P (RUN P I 0 7) (RUN P I 0 8) (RUN P I 0 10) 24 I0 0 false).2 := by rw [← hE9]; simp only [sPass, if_neg hkl]
            rw [e1] at hokv hIv
            rw [e2]
            exact fin Mv _ hokv hFv y1 y2 y3 hIv
          · have hkl : k < J0.length := Classical.byContradiction (fun z => c60 (nI_le (by omega) (by omega)))
            refine g_aload_n C dX8_small_63 rfl ?_
            refine g_iload_n C dX8_small_64 rfl ?_
            refine g_iload C dX8_small_65 rfl ?_
            refine g_callVt C hts V (i := 134) (gX8_small_X8_leavesOut) rfl hdX8_leavesOut (by decide) (c_X8_leavesOut hw hR hs (zF.prog (fun x y h1 h2 _ _ => hFv x y (by omega) h2) hP) hL hIv hokv y1 y2 y3 hkl) (by rw [hw]; decide) rfl (by decide) rfl rfl (Nat.le_of_ble_eq_true rfl) dX8_small_67 (fun v M1 J1 R1 h => ?_)
            obtain ⟨h0, hJ, hR1, hF, hI1⟩ := h
            subst h0
            have hJ := Eq.symm hJ
            subst hJ
            have hR1 := Eq.symm hR1
            subst hR1
            try dsimp only at hF hI1
            have hF1 : (∀ x y, ¬ (x = 134 ∧ (29 ≤ y ∧ y ≤ 38 ∨ 54 ≤ y ∧ y ≤ 56)) → ¬ (148 ≤ x ∧ x ≤ 152) → M1 x y = M x y) := fun x y h1 h2 => (hF x y (by omega) h2).trans (hFv x y h1 h2)
            have v1 : M1 134 54 = RUN P I 0 7 := (hF 134 54 (by omega) (by omega)).trans y1
            have v2 : M1 134 55 = RUN P I 0 8 := (hF 134 55 (by omega) (by omega)).trans y2
            have v3 : M1 134 56 = RUN P I 0 10 := (hF 134 56 (by omega) (by omega)).trans y3
            show Gj X 0 0 w M1 J R 70 [some (.ref (w.2.1 134)), some (.int (nI s)), some (.int (nI i)), some (.int (b2i b)), some (.int (nI k))] [.int (if okc P (RUN P I 0 7) (RUN P I 0 8) (RUN P I 0 10) (J0.eraseIdx k) then 1 else 0)]
            refine g_if_eq (tgt := 78) C dX8_small_70 (by decide) (fun c70 => ?_) (fun c70 => ?_)
            · refine g_iinc (v := nI (k + 1)) C V.2.1 dX8_small_78 rfl (nI_succ k).symm (by decide) rfl ?_
              refine g_goto (tgt := 54) C dX8_small_81 (by decide) ?_
              have hnot : ¬ okc P (RUN P I 0 7) (RUN P I 0 8) (RUN P I 0 10) (J0.eraseIdx k) := fun z => by rw [if_pos z] at c70; exact absurd c70 (by decide)
              rw [if_neg hnot] at hI1
              exact ihf (k + 1) b _ M1 (by omega) (by omega) hokv hF1 v1 v2 v3 hI1 (by rw [← hE9]; simp only [sPass, if_pos hkl, if_neg hnot])
            · refine g_iconst (v := 1) C dX8_small_73 (by decide) ?_
              refine g_istore_n C V.2.1 dX8_small_74 (by decide) rfl ?_
              refine g_goto (tgt := 54) C dX8_small_75 (by decide) ?_
              have hyes : okc P (RUN P I 0 7) (RUN P I 0 8) (RUN P I 0 10) (J0.eraseIdx k) := Classical.byContradiction (fun z => c70 (if_neg z))
              rw [if_pos hyes] at hI1
              have hel := len_erase J0 hkl
              exact ihf k true _ M1 (by omega) (by omega) (hokv.erase hkl) hF1 v1 v2 v3 hI1 (by rw [← hE9]; simp only [sPass, if_pos hkl, if_pos hyes])
      refine g_iload_n C dX8_small_45 rfl ?_
      refine g_if_eq (tgt := 87) C dX8_small_46 (by decide) (fun c46 => absurd c46 (by decide)) (fun c46 => ?_)
      refine g_iconst (v := 0) C dX8_small_49 (by decide) ?_
      refine g_istore_n C V.2.1 dX8_small_50 (by decide) rfl ?_
      refine g_iconst (v := 0) C dX8_small_51 (by decide) ?_
      refine g_istore C V.2.1 dX8_small_52 (by decide) rfl ?_
      exact pass 24 0 false I0 M0 (by omega) (by omega) hok0 hF0 w1 w2 w3 hI0 rfl
  refine g_iload_n C dX8_small_0 rfl ?_
  refine g_callSf C hts V (gX8_small_X8_isShelf) rfl hdX8_isShelf (by decide) c_X8_isShelf rfl rfl (Nat.le_of_ble_eq_true rfl) dX8_small_1 ?_
  refine g_if_eq (tgt := 15) C dX8_small_4 (by decide) (fun c4 => absurd c4 (isSh_n hs)) (fun c4 => ?_)
  refine g_aload_n C dX8_small_7 rfl ?_
  refine g_iload_n C dX8_small_8 rfl ?_
  refine g_callVf C hts V (i := 134) (gX8_small_X8_isInput) rfl hdX8_isInput (by decide) (c_X8_isInput hw hR) (by rw [hw]; decide) rfl (by decide) rfl rfl (Nat.le_of_ble_eq_true rfl) dX8_small_9 ?_
  refine g_if_ne (tgt := 17) C dX8_small_12 (by decide) (fun c12 => ?_) (fun c12 => absurd c12 (by rw [h9]; exact isIn_n hn hi))
  refine g_aload_n C dX8_small_17 rfl ?_
  refine g_iload_n C dX8_small_18 rfl ?_
  refine g_callVf C hts V (i := 134) (gX8_small_X8_use) rfl hdX8_use (by decide) (c_X8_use hw hR (by omega) hA.1 hB.1) (by rw [hw]; decide) rfl (by decide) rfl rfl (Nat.le_of_ble_eq_true rfl) dX8_small_19 ?_
  refine g_aload_n C dX8_small_22 rfl ?_
  refine g_iload_n C dX8_small_23 rfl ?_
  refine g_callVt C hts V (i := 134) (gX8_small_X8_runOn) rfl hdX8_runOn (by decide) (c_X8_runOn hw hR hs (use_prog hP) (use_in hA) hL hB) (by rw [hw]; decide) rfl (by decide) rfl rfl (Nat.le_of_ble_eq_true rfl) dX8_small_24 (fun v M1 J1 R1 h => ?_)
  obtain ⟨h0, hJ, hR1, hF, hQ⟩ := h
  subst h0
  have hJ := Eq.symm hJ
  subst hJ
  have hR1 := Eq.symm hR1
  subst hR1
  try dsimp only at hF hQ
  have hFs : (∀ x y, ¬ (x = 134 ∧ (29 ≤ y ∧ y ≤ 38 ∨ 54 ≤ y ∧ y ≤ 56)) → ¬ (148 ≤ x ∧ x ≤ 152) → M1 x y = M x y) := fun x y h1 h2 => use_rF hF x y (by omega) (by omega)
  have g7 : M1 134 30 = RUN P I 0 7 := (hQ.1 7 (by decide) (by decide)).symm
  have g8 : M1 134 31 = RUN P I 0 8 := (hQ.1 8 (by decide) (by decide)).symm
  have g10 : M1 134 33 = RUN P I 0 10 := (hQ.1 10 (by decide) (by decide)).symm
  show Gj X 0 0 w M1 J R 27 [some (.ref (w.2.1 134)), some (.int (nI s)), some (.int (nI i)), none, none] []
  refine g_aload_n C dX8_small_27 rfl ?_
  refine g_geti (v := RUN P I 0 7) C F8 (by rw [hw]; decide) rfl (by decide) 30 (by decide) rfl (hts (.fieldLink RX8 234 "FallBenchModel" "ended" "I") (by decide +kernel)) rfl g7 dX8_small_28 ?_
  refine g_callSf C hts V (gX8_small_X8_isFall) rfl hdX8_isFall (by decide) c_X8_isFall rfl rfl (Nat.le_of_ble_eq_true rfl) dX8_small_31 ?_
  refine g_if_ne (tgt := 39) C dX8_small_34 (by decide) (fun c34 => ?_) (fun c34 => ?_)
  · refine g_aload_n C dX8_small_39 rfl ?_
    refine g_callVf C hts V (i := 134) (gX8_small_X8_want) rfl hdX8_want (by decide) (c_X8_want hw hR) (by rw [hw]; decide) rfl (by decide) rfl rfl (Nat.le_of_ble_eq_true rfl) dX8_small_40 ?_
    refine g_iconst (v := 1) C dX8_small_43 (by decide) ?_
    refine g_istore_n C V.2.1 dX8_small_44 (by decide) rfl ?_
    have hw9 : ∀ x y, ¬ (x = 134 ∧ 54 ≤ y ∧ y ≤ 56) → n_want M1 x y = M1 x y := fun x y h => by simp only [n_want]; rw [up2_n (by omega), up2_n (by omega), up2_n (by omega)]
    have hl := hB.1
    exact outer (fun z => c34 ((run_fall hL.1 hB).mp z)) 25 I _ _ (by omega) hB (fun x y h1 h2 => by rw [hw9 x y (by omega)]; exact hFs x y h1 h2) (by simp only [n_want]; rw [up2_n2 _ _ (by decide), up2_n2 _ _ (by decide), up2_eq]; exact g7) (by simp only [n_want]; rw [up2_n2 _ _ (by decide), up2_eq]; exact g8) (by simp only [n_want]; rw [up2_eq]; exact g10) (show inN (n_want M1) I from ⟨by rw [hw9 134 29 (by omega)]; exact ((use_in hA).F hF).1, fun k hk => by rw [hw9 148 k (by omega)]; exact ((use_in hA).F hF).2 k hk⟩) rfl
  · refine g_iconst (v := (-1)) C dX8_small_37 (by decide) ?_
    exact g_iret C Rr ⟨rfl, ⟨by rw [if_pos ((run_fall hL.1 hB).mpr c34)], rfl, rfl, fun x y h1 h2 _ _ => hFs x y (by omega) h2, fun z => absurd ((run_fall hL.1 hB).mpr c34) z, fun _ => hFs⟩⟩ dX8_small_38
