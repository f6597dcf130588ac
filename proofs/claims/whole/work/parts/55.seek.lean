/-! seek, nearest, nearestByte of the reference -/
theorem inN.set {M : Nat → Nat → Int32} {I : List Int32} {k : Nat} (h : inN M I) (hk : k < I.length) (v : Int32) : inN (up2 M 148 k v) (I.set k v) := by
  refine ⟨by rw [up2_n1 _ _ (by decide), List.length_set]; exact h.1, fun j hj => ?_⟩
  rw [List.length_set] at hj
  by_cases e : j = k
  · subst e; rw [up2_eq, getD_set_eq I v hk]
  · rw [up2_n2 _ _ e, getD_set I v e]; exact h.2 j hj
theorem okI.set {I : List Int32} (h : okI I) {v : Nat} (hv : v < 256) (k : Nat) : okI (I.set k (nI v)) := by
  refine ⟨by rw [List.length_set]; exact h.1, fun j hj => ?_⟩
  rw [List.length_set] at hj
  by_cases e : j = k
  · subst e; rw [getD_set_eq I _ hj]; exact ⟨nI_pos (by omega), nI_lt (b := 256) hv (by decide)⟩
  · rw [getD_set I _ e]; exact h.2 j hj
theorem near_len {P : List act4} {I : List Int32} (hB : okI I) (hL : okL P) (hE : ¬ RUN P I 0 7 = 0) : NEAR P I = near P I I.length := by
  obtain ⟨rc, hrc, h5⟩ := run_read P I hL hB
  have hl := hB.1
  rw [NEAR, if_neg hE, h5, nI_clamp (by omega)]
  have : ∀ n, rc ≤ n → n ≤ I.length → near P I n = near P I rc := by
    intro n
    induction n with
    | zero => intro h1 _; obtain rfl : rc = 0 := by omega
              rfl
    | succ n ih =>
      intro h1 h2
      rcases Nat.lt_or_ge n rc with q | q
      · obtain rfl : rc = n + 1 := by omega
        rfl
      · rw [near, ih q (by omega)]
        by_cases c : (near P I rc).1 = -1
        · rw [if_pos c]
          rcases hf : hfd (wlB P I n) 256 with _ | v
          · exact Prod.ext c.symm (near_2 P I rc (by omega) c).symm
          · have := (hfd_spec hf).2
            simp only [wlB] at this
            rw [run_unread hB (nI v) hrc h5 q] at this
            exact absurd this hE
        · rw [if_neg c]
  exact (this I.length hrc (Nat.le_refl _)).symm
def sF (M M' : Nat → Nat → Int32) : Prop := ∀ x y, ¬ (x = 134 ∧ (29 ≤ y ∧ y ≤ 38 ∨ y = 57 ∨ y = 58)) → ¬ (148 ≤ x ∧ x ≤ 152) → M' x y = M x y
theorem sF.prog {M M' : Nat → Nat → Int32} {s : Nat} {P : List act4} (hF : sF M M') (h : progN M s P) : progN M' s P :=
  ⟨h.1, by rw [hF 141 s (by omega) (by omega)]; exact h.2.1, fun k hk => by rw [hF 137 _ (by omega) (by omega), hF 138 _ (by omega) (by omega), hF 139 _ (by omega) (by omega), hF 140 _ (by omega) (by omega)]; exact h.2.2 k hk⟩

set_option maxHeartbeats 4000000 in
set_option maxRecDepth 100000 in
theorem c_X8_seek_no {l : Launch} {D : va_G} {w : gw} {M : Nat → Nat → Int32} {J : Nat → Nat → Int64} {R : Nat → Nat → Option Nat} (hw : w.1 = 166) (hR : LayM R) {a i : Int32} (hno : isSh a = 0 ∨ isIn (M 134 23) i = 0) : Cf l yX8_seek wsX8_seek ({ frames := 3, cells := 0, slots := 0, locals := 75 } : Room) D w [.ref (w.2.1 134), .int a, .int i] M J R none (up2 (up2 M 134 57 (-1)) 134 58 (-1)) J R := by
  refine Cg.of (own := RX8) (cc := cX8_seek) (maxL := 6) (ret := none) 3 (by decide) rfl rfl (Nat.le_of_ble_eq_true rfl) (fun X C hts V Rr => ?_)
  have F8 : FW X 8 := fun q h => hts q (List.mem_cons_of_mem _ (List.mem_append_right _ h))
  show Gj X 0 0 w M J R 0 [some (.ref (w.2.1 134)), some (.int a), some (.int i), none, none, none] []
  refine g_aload_n C dX8_seek_0 rfl ?_
  refine g_iconst (v := (-1)) C dX8_seek_1 (by decide) ?_
  refine g_puti C F8 (by rw [hw]; decide) rfl (by decide) 57 (by decide) rfl (hts (.fieldLink RX8 320 "FallBenchModel" "nearByte" "I") (by decide +kernel)) rfl rfl rfl rfl dX8_seek_2 ?_
  refine g_aload_n C dX8_seek_5 rfl ?_
  refine g_iconst (v := (-1)) C dX8_seek_6 (by decide) ?_
  refine g_puti C F8 (by rw [hw]; decide) rfl (by decide) 58 (by decide) rfl (hts (.fieldLink RX8 323 "FallBenchModel" "nearValue" "I") (by decide +kernel)) rfl rfl rfl rfl dX8_seek_7 ?_
  refine g_iload_n C dX8_seek_10 rfl ?_
  refine g_callSf C hts V (gX8_seek_X8_isShelf) rfl hdX8_isShelf (by decide) c_X8_isShelf rfl rfl (Nat.le_of_ble_eq_true rfl) dX8_seek_11 ?_
  refine g_if_eq (tgt := 25) C dX8_seek_14 (by decide) (fun c14 => ?_) (fun c14 => ?_)
  · exact g_vret C Rr ⟨rfl, ⟨rfl, rfl⟩⟩ dX8_seek_25
  · refine g_aload_n C dX8_seek_17 rfl ?_
    refine g_iload_n C dX8_seek_18 rfl ?_
    refine g_callVf C hts V (i := 134) (gX8_seek_X8_isInput) rfl hdX8_isInput (by decide) (c_X8_isInput hw hR) (by rw [hw]; decide) rfl (by decide) rfl rfl (Nat.le_of_ble_eq_true rfl) dX8_seek_19 ?_
    refine g_if_ne (tgt := 26) C dX8_seek_22 (by decide) (fun c22 => ?_) (fun c22 => ?_)
    · exact absurd hno (fun z => by rcases z with z | z; exact c14 z; exact c22 (by rw [up2_n2 _ _ (by decide), up2_n2 _ _ (by decide)]; exact z))
    · exact g_vret C Rr ⟨rfl, ⟨rfl, rfl⟩⟩ dX8_seek_25

set_option maxHeartbeats 4000000 in
set_option maxRecDepth 100000 in
theorem c_X8_seek {l : Launch} {D : va_G} {w : gw} {M : Nat → Nat → Int32} {J : Nat → Nat → Int64} {R : Nat → Nat → Option Nat} (hw : w.1 = 166) (hR : LayM R) {a n i : Nat} {P : List act4} {I : List Int32} (ha : a < 3) (hn : n ≤ 30) (h9 : M 134 23 = nI n) (hi : i < n) (hP : progN M a P) (hL : okL2 P) (hA : inAtM M i I) (hB : okI I) : Ct l yX8_seek wsX8_seek ({ frames := 3, cells := 0, slots := 0, locals := 75 } : Room) D w [.ref (w.2.1 134), .int (nI a), .int (nI i)] (M, J, R) (fun v u => v = none ∧ u.2.1 = J ∧ u.2.2 = R ∧ u.1 134 57 = (NEAR P I).1 ∧ u.1 134 58 = (NEAR P I).2 ∧ sF M u.1) := by
  refine Cg.of (own := RX8) (cc := cX8_seek) (maxL := 6) (ret := none) 3 (by decide) rfl rfl (Nat.le_of_ble_eq_true rfl) (fun X C hts V Rr => ?_)
  have F8 : FW X 8 := fun q h => hts q (List.mem_cons_of_mem _ (List.mem_append_right _ h))
  show Gj X 0 0 w M J R 0 [some (.ref (w.2.1 134)), some (.int (nI a)), some (.int (nI i)), none, none, none] []
  have hl := hB.1
  obtain ⟨o1, o2⟩ : (∀ y, y ≠ 57 → y ≠ 58 → (up2 (up2 M 134 57 (-1)) 134 58 (-1)) 134 y = M 134 y) ∧ ∀ x y, x ≠ 134 → (up2 (up2 M 134 57 (-1)) 134 58 (-1)) x y = M x y := ⟨fun y h1 h2 => by rw [up2_n2 _ _ h2, up2_n2 _ _ h1], fun x y h => by rw [up2_n1 _ _ h, up2_n1 _ _ h]⟩
  have hPn : progN (up2 (up2 M 134 57 (-1)) 134 58 (-1)) a P := ⟨hP.1, by rw [o2 _ _ (by decide)]; exact hP.2.1, fun k hk => by rw [o2 _ _ (by decide), o2 _ _ (by decide), o2 _ _ (by decide), o2 _ _ (by decide)]; exact hP.2.2 k hk⟩
  have hAn : inAtM (up2 (up2 M 134 57 (-1)) 134 58 (-1)) i I := ⟨by rw [o2 _ _ (by decide)]; exact hA.1, fun k hk => by rw [o2 _ _ (by decide)]; exact hA.2 k hk⟩
  have loop : ¬ RUN P I 0 7 = 0 → ∀ dd k M0 z1 z2, k + dd = I.length → sF M M0 → inN M0 I → M0 134 57 = -1 → M0 134 58 = -1 → (near P I k).1 = -1 → Gj X 0 0 w M0 J R 46 [some (.ref (w.2.1 134)), some (.int (nI a)), some (.int (nI i)), some (.int (nI k)), z1, z2] [] := by
    intro hE dd
    induction dd with
    | zero =>
      intro k M0 z1 z2 hk hF0 hI0 n57 n58 hnr
      obtain rfl : k = I.length := by omega
      refine g_iload_n C dX8_seek_46 rfl ?_
      refine g_aload_n C dX8_seek_47 rfl ?_
      refine g_geti (v := nI I.length) C F8 (by rw [hw]; decide) rfl (by decide) 29 (by decide) rfl (hts (.fieldLink RX8 231 "FallBenchModel" "byteMany" "I") (by decide +kernel)) rfl hI0.1 dX8_seek_48 ?_
      refine g_icmp_ge (tgt := 128) C dX8_seek_51 (by decide) (fun c51 => ?_) (fun c51 => absurd c51 (not_not_intro (nI_le (Nat.le_refl _) (by omega))))
      exact g_vret C Rr ⟨rfl, ⟨rfl, rfl, rfl, by rw [near_len hB hL.1 hE, hnr]; exact n57, by rw [near_len hB hL.1 hE, near_2 P I _ (by omega) hnr]; exact n58, hF0⟩⟩ dX8_seek_128
    | succ dd ih =>
      intro k M0 z1 z2 hk hF0 hI0 n57 n58 hnr
      have inner : ∀ ee v Mv I0, v + ee = 256 → sF M Mv → inN Mv I0 → eqx I0 I k → Mv 134 57 = -1 → Mv 134 58 = -1 → hfd (wlB P I k) v = none → Gj X 0 0 w Mv J R 65 [some (.ref (w.2.1 134)), some (.int (nI a)), some (.int (nI i)), some (.int (nI k)), some (.int (I.getD k 0)), some (.int (nI v))] [] := by
        intro ee
        induction ee with
        | zero =>
          intro v Mv I0 hv hFv hIv hx m57 m58 hno
          obtain rfl : v = 256 := by omega
          have hk0 : k < I0.length := by rw [hx.1]; omega
          refine g_iload C dX8_seek_65 rfl ?_
          refine g_sipush (v := 256) C dX8_seek_67 (by decide) ?_
          refine g_icmp_ge (tgt := 114) C dX8_seek_70 (by decide) (fun c70 => ?_) (fun c70 => absurd c70 (not_not_intro (by decide)))
          refine g_aload_n C dX8_seek_114 rfl ?_
          refine g_getr (j := 148) C F8 (by rw [hw]; decide) rfl (by decide) 24 (by decide) rfl (hts (.fieldLink RX8 55 "FallBenchModel" "bytes" "[I") (by decide +kernel)) rfl (hR (24, 148) (by decide)) dX8_seek_115 ?_
          refine g_iload_n C dX8_seek_118 rfl ?_
          refine g_iload C dX8_seek_119 rfl ?_
          refine g_iast C (by rw [hw]; decide) rfl (vp_in_nI (N := 24) (by omega) (by decide)) dX8_seek_121 ?_
          refine g_iinc (v := nI (k + 1)) C V.2.1 dX8_seek_122 rfl (nI_succ k).symm (by decide) rfl ?_
          refine g_goto (tgt := 46) C dX8_seek_125 (by decide) ?_
          have q := hIv.set hk0 (I.getD k 0)
          rw [hx.2, set_getD9 I (by omega)] at q
          rw [nI_clamp (show k < 2 ^ 31 by omega)]
          exact ih (k + 1) _ _ _ (by omega) (fun x y h1 h2 => by rw [up2_n1 _ _ (by omega)]; exact hFv x y h1 h2) q (by rw [up2_n1 _ _ (by decide)]; exact m57) (by rw [up2_n1 _ _ (by decide)]; exact m58) (by rw [near, if_pos hnr, hno])
        | succ ee ih2 =>
          intro v Mv I0 hv hFv hIv hx m57 m58 hno
          have hk0 : k < I0.length := by rw [hx.1]; omega
          have q := hIv.set hk0 (nI v)
          rw [hx.2] at q
          have hFq : sF M (up2 Mv 148 k (nI v)) := fun x y h1 h2 => by rw [up2_n1 _ _ (by omega)]; exact hFv x y h1 h2
          refine g_iload C dX8_seek_65 rfl ?_
          refine g_sipush (v := 256) C dX8_seek_67 (by decide) ?_
          refine g_icmp_ge (tgt := 114) C dX8_seek_70 (by decide) (fun c70 => absurd c70 (fun y => absurd ((nI_leI (a := 256) (b := v) (by decide) (by omega)).mp y) (by omega))) (fun c70 => ?_)
          refine g_aload_n C dX8_seek_73 rfl ?_
          refine g_getr (j := 148) C F8 (by rw [hw]; decide) rfl (by decide) 24 (by decide) rfl (hts (.fieldLink RX8 55 "FallBenchModel" "bytes" "[I") (by decide +kernel)) rfl (hR (24, 148) (by decide)) dX8_seek_74 ?_
          refine g_iload_n C dX8_seek_77 rfl ?_
          refine g_iload C dX8_seek_78 rfl ?_
          refine g_iast C (by rw [hw]; decide) rfl (vp_in_nI (N := 24) (by omega) (by decide)) dX8_seek_80 ?_
          refine Gj_mem (M' := up2 Mv 148 k (nI v)) (by rw [nI_clamp (show k < 2 ^ 31 by omega)]) ?_
          refine g_aload_n C dX8_seek_81 rfl ?_
          refine g_iload_n C dX8_seek_82 rfl ?_
          refine g_callVt C hts V (i := 134) (gX8_seek_X8_runOn) rfl hdX8_runOn (by decide) (c_X8_runOn hw hR ha (hFq.prog hP) q hL (hB.set (by omega) k)) (by rw [hw]; decide) rfl (by decide) rfl rfl (Nat.le_of_ble_eq_true rfl) dX8_seek_83 (fun v M1 J1 R1 h => ?_)
          obtain ⟨h0, hJ, hR1, hF, hQ⟩ := h
          subst h0
          have hJ := Eq.symm hJ
          subst hJ
          have hR1 := Eq.symm hR1
          subst hR1
          try dsimp only at hF hQ
          have g7 : M1 134 30 = RUN P (I.set k (nI v)) 0 7 := (hQ.1 7 (by decide) (by decide)).symm
          have hF1 : sF M M1 := fun x y h1 h2 => by rw [hF x y (by omega) (by omega)]; exact hFq x y h1 h2
          have k57 : M1 134 57 = -1 := by rw [hF 134 57 (by omega) (by omega), up2_n1 _ _ (by decide)]; exact m57
          have k58 : M1 134 58 = -1 := by rw [hF 134 58 (by omega) (by omega), up2_n1 _ _ (by decide)]; exact m58
          have q1 : inN M1 (I.set k (nI v)) := q.F hF
          show Gj X 0 0 w M1 J R 86 [some (.ref (w.2.1 134)), some (.int (nI a)), some (.int (nI i)), some (.int (nI k)), some (.int (I.getD k 0)), some (.int (nI v))] []
          refine g_aload_n C dX8_seek_86 rfl ?_
          refine g_geti (v := RUN P (I.set k (nI v)) 0 7) C F8 (by rw [hw]; decide) rfl (by decide) 30 (by decide) rfl (hts (.fieldLink RX8 234 "FallBenchModel" "ended" "I") (by decide +kernel)) rfl g7 dX8_seek_87 ?_
          refine g_if_eq (tgt := 96) C dX8_seek_90 (by decide) (fun c90 => ?_) (fun c90 => ?_)
          · have e9 : near P I (k + 1) = (nI k, nI v) := by rw [near, if_pos hnr, hfd_up (n := v + 1) (h := v) (by rw [hfd_s hno, if_pos c90]) 256 (by omega)]
            have e8 : NEAR P I = (nI k, nI v) := by rw [near_len hB hL.1 hE, near_stay P I (j := k + 1) (by rw [e9]; exact nm1 (by omega)) I.length (by omega), e9]
            refine g_aload_n C dX8_seek_96 rfl ?_
            refine g_iload_n C dX8_seek_97 rfl ?_
            refine g_puti C F8 (by rw [hw]; decide) rfl (by decide) 57 (by decide) rfl (hts (.fieldLink RX8 320 "FallBenchModel" "nearByte" "I") (by decide +kernel)) rfl rfl rfl rfl dX8_seek_98 ?_
            refine g_aload_n C dX8_seek_101 rfl ?_
            refine g_iload C dX8_seek_102 rfl ?_
            refine g_puti C F8 (by rw [hw]; decide) rfl (by decide) 58 (by decide) rfl (hts (.fieldLink RX8 323 "FallBenchModel" "nearValue" "I") (by decide +kernel)) rfl rfl rfl rfl dX8_seek_104 ?_
            exact g_vret C Rr ⟨rfl, ⟨rfl, rfl, rfl, by rw [e8]; show up2 (up2 M1 134 57 (nI k)) 134 58 (nI v) 134 57 = nI k; rw [up2_n2 _ _ (by decide), up2_eq], by rw [e8]; show up2 (up2 M1 134 57 (nI k)) 134 58 (nI v) 134 58 = nI v; rw [up2_eq], fun x y h1 h2 => by show up2 (up2 M1 134 57 (nI k)) 134 58 (nI v) x y = M x y; rw [up2_n (by omega), up2_n (by omega)]; exact hF1 x y h1 h2⟩⟩ dX8_seek_107
          · refine g_goto (tgt := 108) C dX8_seek_93 (by decide) ?_
            refine g_iinc (v := nI (v + 1)) C V.2.1 dX8_seek_108 rfl (nI_succ v).symm (by decide) rfl ?_
            refine g_goto (tgt := 65) C dX8_seek_111 (by decide) ?_
            exact ih2 (v + 1) _ _ (by omega) hF1 q1 ((eqx.rf I k).set _) k57 k58 (by rw [hfd_s hno, if_neg c90])
      refine g_iload_n C dX8_seek_46 rfl ?_
      refine g_aload_n C dX8_seek_47 rfl ?_
      refine g_geti (v := nI I.length) C F8 (by rw [hw]; decide) rfl (by decide) 29 (by decide) rfl (hts (.fieldLink RX8 231 "FallBenchModel" "byteMany" "I") (by decide +kernel)) rfl hI0.1 dX8_seek_48 ?_
      refine g_icmp_ge (tgt := 128) C dX8_seek_51 (by decide) (fun c51 => absurd c51 (nI_ge (by omega) (by omega))) (fun c51 => ?_)
      refine g_aload_n C dX8_seek_54 rfl ?_
      refine g_getr (j := 148) C F8 (by rw [hw]; decide) rfl (by decide) 24 (by decide) rfl (hts (.fieldLink RX8 55 "FallBenchModel" "bytes" "[I") (by decide +kernel)) rfl (hR (24, 148) (by decide)) dX8_seek_55 ?_
      refine g_iload_n C dX8_seek_58 rfl ?_
      refine g_iald (v := I.getD k 0) C (by rw [hw]; decide) rfl (vp_in_nI (N := 24) (by omega) (by decide)) (by rw [nI_clamp (by omega)]; exact hI0.2 k (by omega)) dX8_seek_59 ?_
      refine g_istore C V.2.1 dX8_seek_60 (by decide) rfl ?_
      refine g_iconst (v := 0) C dX8_seek_62 (by decide) ?_
      refine g_istore C V.2.1 dX8_seek_63 (by decide) rfl ?_
      exact inner 256 0 M0 I (by decide) hF0 hI0 (eqx.rf I k) n57 n58 rfl
  refine g_aload_n C dX8_seek_0 rfl ?_
  refine g_iconst (v := (-1)) C dX8_seek_1 (by decide) ?_
  refine g_puti C F8 (by rw [hw]; decide) rfl (by decide) 57 (by decide) rfl (hts (.fieldLink RX8 320 "FallBenchModel" "nearByte" "I") (by decide +kernel)) rfl rfl rfl rfl dX8_seek_2 ?_
  refine g_aload_n C dX8_seek_5 rfl ?_
  refine g_iconst (v := (-1)) C dX8_seek_6 (by decide) ?_
  refine g_puti C F8 (by rw [hw]; decide) rfl (by decide) 58 (by decide) rfl (hts (.fieldLink RX8 323 "FallBenchModel" "nearValue" "I") (by decide +kernel)) rfl rfl rfl rfl dX8_seek_7 ?_
  refine g_iload_n C dX8_seek_10 rfl ?_
  refine g_callSf C hts V (gX8_seek_X8_isShelf) rfl hdX8_isShelf (by decide) c_X8_isShelf rfl rfl (Nat.le_of_ble_eq_true rfl) dX8_seek_11 ?_
  refine g_if_eq (tgt := 25) C dX8_seek_14 (by decide) (fun c14 => absurd c14 (isSh_n ha)) (fun c14 => ?_)
  refine g_aload_n C dX8_seek_17 rfl ?_
  refine g_iload_n C dX8_seek_18 rfl ?_
  refine g_callVf C hts V (i := 134) (gX8_seek_X8_isInput) rfl hdX8_isInput (by decide) (c_X8_isInput hw hR) (by rw [hw]; decide) rfl (by decide) rfl rfl (Nat.le_of_ble_eq_true rfl) dX8_seek_19 ?_
  refine g_if_ne (tgt := 26) C dX8_seek_22 (by decide) (fun c22 => ?_) (fun c22 => absurd c22 (by rw [o1 23 (by decide) (by decide), h9]; exact isIn_n hn hi))
  refine g_aload_n C dX8_seek_26 rfl ?_
  refine g_iload_n C dX8_seek_27 rfl ?_
  refine g_callVf C hts V (i := 134) (gX8_seek_X8_use) rfl hdX8_use (by decide) (c_X8_use hw hR (by omega) hAn.1 hB.1) (by rw [hw]; decide) rfl (by decide) rfl rfl (Nat.le_of_ble_eq_true rfl) dX8_seek_28 ?_
  refine g_aload_n C dX8_seek_31 rfl ?_
  refine g_iload_n C dX8_seek_32 rfl ?_
  refine g_callVt C hts V (i := 134) (gX8_seek_X8_runOn) rfl hdX8_runOn (by decide) (c_X8_runOn hw hR ha (use_prog hPn) (use_in hAn) hL hB) (by rw [hw]; decide) rfl (by decide) rfl rfl (Nat.le_of_ble_eq_true rfl) dX8_seek_33 (fun v M1 J1 R1 h => ?_)
  obtain ⟨h0, hJ, hR1, hF, hQ⟩ := h
  subst h0
  have hJ := Eq.symm hJ
  subst hJ
  have hR1 := Eq.symm hR1
  subst hR1
  try dsimp only at hF hQ
  have hFs : sF M M1 := fun x y h1 h2 => by
    rw [use_rF hF x y (by omega) (by omega)]; exact up2_n (by omega) |>.trans (up2_n (by omega))
  have s57 : M1 134 57 = -1 := by rw [use_rF hF 134 57 (by omega) (by omega), up2_n2 _ _ (by decide), up2_eq]
  have s58 : M1 134 58 = -1 := by rw [use_rF hF 134 58 (by omega) (by omega), up2_eq]
  show Gj X 0 0 w M1 J R 36 [some (.ref (w.2.1 134)), some (.int (nI a)), some (.int (nI i)), none, none, none] []
  refine g_aload_n C dX8_seek_36 rfl ?_
  refine g_geti (v := RUN P I 0 7) C F8 (by rw [hw]; decide) rfl (by decide) 30 (by decide) rfl (hts (.fieldLink RX8 234 "FallBenchModel" "ended" "I") (by decide +kernel)) rfl (hQ.1 7 (by decide) (by decide)).symm dX8_seek_37 ?_
  refine g_if_ne (tgt := 44) C dX8_seek_40 (by decide) (fun c40 => ?_) (fun c40 => ?_)
  · refine g_iconst (v := 0) C dX8_seek_44 (by decide) ?_
    refine g_istore_n C V.2.1 dX8_seek_45 (by decide) rfl ?_
    exact loop c40 I.length 0 M1 _ _ (by omega) hFs ((use_in hAn).F hF) s57 s58 rfl
  · exact g_vret C Rr ⟨rfl, ⟨rfl, rfl, rfl, by rw [NEAR, if_pos c40]; exact s57, by rw [NEAR, if_pos c40]; exact s58, hFs⟩⟩ dX8_seek_43

set_option maxHeartbeats 4000000 in
set_option maxRecDepth 100000 in
theorem c_X8_nearest_no {l : Launch} {D : va_G} {w : gw} {M : Nat → Nat → Int32} {J : Nat → Nat → Int64} {R : Nat → Nat → Option Nat} (hw : w.1 = 166) (hR : LayM R) {a i : Int32} (hno : isSh a = 0 ∨ isIn (M 134 23) i = 0) : Cf l yX8_nearest wsX8_nearest ({ frames := 4, cells := 0, slots := 0, locals := 100 } : Room) D w [.ref (w.2.1 134), .int a, .int i] M J R (some (.int (-1))) (up2 (up2 M 134 57 (-1)) 134 58 (-1)) J R := by
  refine Cg.of (own := RX8) (cc := cX8_nearest) (maxL := 3) (ret := (some .int)) 0 (by decide) rfl rfl (Nat.le_of_ble_eq_true rfl) (fun X C hts V Rr => ?_)
  have F8 : FW X 8 := fun q h => hts q (List.mem_cons_of_mem _ (List.mem_append_right _ h))
  show Gj X 0 0 w M J R 0 [some (.ref (w.2.1 134)), some (.int a), some (.int i)] []
  refine g_aload_n C dX8_nearest_0 rfl ?_
  refine g_iload_n C dX8_nearest_1 rfl ?_
  refine g_iload_n C dX8_nearest_2 rfl ?_
  refine g_callVf C hts V (i := 134) (gX8_nearest_X8_seek) rfl hdX8_seek (by decide) (c_X8_seek_no hw hR hno) (by rw [hw]; decide) rfl (by decide) rfl rfl (Nat.le_of_ble_eq_true rfl) dX8_nearest_3 ?_
  refine g_aload_n C dX8_nearest_6 rfl ?_
  refine g_geti (v := (-1)) C F8 (by rw [hw]; decide) rfl (by decide) 57 (by decide) rfl (hts (.fieldLink RX8 320 "FallBenchModel" "nearByte" "I") (by decide +kernel)) rfl (by rw [up2_n2 _ _ (by decide), up2_eq]) dX8_nearest_7 ?_
  exact g_iret C Rr ⟨rfl, ⟨rfl, rfl⟩⟩ dX8_nearest_10

set_option maxHeartbeats 4000000 in
set_option maxRecDepth 100000 in
theorem c_X8_nearest {l : Launch} {D : va_G} {w : gw} {M : Nat → Nat → Int32} {J : Nat → Nat → Int64} {R : Nat → Nat → Option Nat} (hw : w.1 = 166) (hR : LayM R) {a n i : Nat} {P : List act4} {I : List Int32} (ha : a < 3) (hn : n ≤ 30) (h9 : M 134 23 = nI n) (hi : i < n) (hP : progN M a P) (hL : okL2 P) (hA : inAtM M i I) (hB : okI I) : Ct l yX8_nearest wsX8_nearest ({ frames := 4, cells := 0, slots := 0, locals := 100 } : Room) D w [.ref (w.2.1 134), .int (nI a), .int (nI i)] (M, J, R) (fun v u => v = some (.int (NEAR P I).1) ∧ u.2.1 = J ∧ u.2.2 = R ∧ sF M u.1) := by
  refine Cg.of (own := RX8) (cc := cX8_nearest) (maxL := 3) (ret := (some .int)) 0 (by decide) rfl rfl (Nat.le_of_ble_eq_true rfl) (fun X C hts V Rr => ?_)
  have F8 : FW X 8 := fun q h => hts q (List.mem_cons_of_mem _ (List.mem_append_right _ h))
  show Gj X 0 0 w M J R 0 [some (.ref (w.2.1 134)), some (.int (nI a)), some (.int (nI i))] []
  refine g_aload_n C dX8_nearest_0 rfl ?_
  refine g_iload_n C dX8_nearest_1 rfl ?_
  refine g_iload_n C dX8_nearest_2 rfl ?_
  refine g_callVt C hts V (i := 134) (gX8_nearest_X8_seek) rfl hdX8_seek (by decide) (c_X8_seek hw hR ha hn h9 hi hP hL hA hB) (by rw [hw]; decide) rfl (by decide) rfl rfl (Nat.le_of_ble_eq_true rfl) dX8_nearest_3 (fun v M1 J1 R1 h => ?_)
  obtain ⟨h0, hJ, hR1, g1, g2, hF⟩ := h
  subst h0
  have hJ := Eq.symm hJ
  subst hJ
  have hR1 := Eq.symm hR1
  subst hR1
  try dsimp only at hF g1 g2
  show Gj X 0 0 w M1 J R 6 [some (.ref (w.2.1 134)), some (.int (nI a)), some (.int (nI i))] []
  refine g_aload_n C dX8_nearest_6 rfl ?_
  refine g_geti (v := (NEAR P I).1) C F8 (by rw [hw]; decide) rfl (by decide) 57 (by decide) rfl (hts (.fieldLink RX8 320 "FallBenchModel" "nearByte" "I") (by decide +kernel)) rfl g1 dX8_nearest_7 ?_
  exact g_iret C Rr ⟨rfl, ⟨rfl, rfl, rfl, hF⟩⟩ dX8_nearest_10

set_option maxHeartbeats 4000000 in
set_option maxRecDepth 100000 in
theorem c_X8_nearestByte_no {l : Launch} {D : va_G} {w : gw} {M : Nat → Nat → Int32} {J : Nat → Nat → Int64} {R : Nat → Nat → Option Nat} (hw : w.1 = 166) (hR : LayM R) {a i : Int32} (hno : isSh a = 0 ∨ isIn (M 134 23) i = 0) : Cf l yX8_nearestByte wsX8_nearestByte ({ frames := 4, cells := 0, slots := 0, locals := 100 } : Room) D w [.ref (w.2.1 134), .int a, .int i] M J R (some (.int (-1))) (up2 (up2 M 134 57 (-1)) 134 58 (-1)) J R := by
  refine Cg.of (own := RX8) (cc := cX8_nearestByte) (maxL := 3) (ret := (some .int)) 0 (by decide) rfl rfl (Nat.le_of_ble_eq_true rfl) (fun X C hts V Rr => ?_)
  have F8 : FW X 8 := fun q h => hts q (List.mem_cons_of_mem _ (List.mem_append_right _ h))
  show Gj X 0 0 w M J R 0 [some (.ref (w.2.1 134)), some (.int a), some (.int i)] []
  refine g_aload_n C dX8_nearestByte_0 rfl ?_
  refine g_iload_n C dX8_nearestByte_1 rfl ?_
  refine g_iload_n C dX8_nearestByte_2 rfl ?_
  refine g_callVf C hts V (i := 134) (gX8_nearestByte_X8_seek) rfl hdX8_seek (by decide) (c_X8_seek_no hw hR hno) (by rw [hw]; decide) rfl (by decide) rfl rfl (Nat.le_of_ble_eq_true rfl) dX8_nearestByte_3 ?_
  refine g_aload_n C dX8_nearestByte_6 rfl ?_
  refine g_geti (v := (-1)) C F8 (by rw [hw]; decide) rfl (by decide) 58 (by decide) rfl (hts (.fieldLink RX8 323 "FallBenchModel" "nearValue" "I") (by decide +kernel)) rfl (up2_eq _ _ _ _) dX8_nearestByte_7 ?_
  exact g_iret C Rr ⟨rfl, ⟨rfl, rfl⟩⟩ dX8_nearestByte_10

set_option maxHeartbeats 4000000 in
set_option maxRecDepth 100000 in
theorem c_X8_nearestByte {l : Launch} {D : va_G} {w : gw} {M : Nat → Nat → Int32} {J : Nat → Nat → Int64} {R : Nat → Nat → Option Nat} (hw : w.1 = 166) (hR : LayM R) {a n i : Nat} {P : List act4} {I : List Int32} (ha : a < 3) (hn : n ≤ 30) (h9 : M 134 23 = nI n) (hi : i < n) (hP : progN M a P) (hL : okL2 P) (hA : inAtM M i I) (hB : okI I) : Ct l yX8_nearestByte wsX8_nearestByte ({ frames := 4, cells := 0, slots := 0, locals := 100 } : Room) D w [.ref (w.2.1 134), .int (nI a), .int (nI i)] (M, J, R) (fun v u => v = some (.int (NEAR P I).2) ∧ u.2.1 = J ∧ u.2.2 = R ∧ sF M u.1) := by
  refine Cg.of (own := RX8) (cc := cX8_nearestByte) (maxL := 3) (ret := (some .int)) 0 (by decide) rfl rfl (Nat.le_of_ble_eq_true rfl) (fun X C hts V Rr => ?_)
  have F8 : FW X 8 := fun q h => hts q (List.mem_cons_of_mem _ (List.mem_append_right _ h))
  show Gj X 0 0 w M J R 0 [some (.ref (w.2.1 134)), some (.int (nI a)), some (.int (nI i))] []
  refine g_aload_n C dX8_nearestByte_0 rfl ?_
  refine g_iload_n C dX8_nearestByte_1 rfl ?_
  refine g_iload_n C dX8_nearestByte_2 rfl ?_
  refine g_callVt C hts V (i := 134) (gX8_nearestByte_X8_seek) rfl hdX8_seek (by decide) (c_X8_seek hw hR ha hn h9 hi hP hL hA hB) (by rw [hw]; decide) rfl (by decide) rfl rfl (Nat.le_of_ble_eq_true rfl) dX8_nearestByte_3 (fun v M1 J1 R1 h => ?_)
  obtain ⟨h0, hJ, hR1, g1, g2, hF⟩ := h
  subst h0
  have hJ := Eq.symm hJ
  subst hJ
  have hR1 := Eq.symm hR1
  subst hR1
  try dsimp only at hF g1 g2
  show Gj X 0 0 w M1 J R 6 [some (.ref (w.2.1 134)), some (.int (nI a)), some (.int (nI i))] []
  refine g_aload_n C dX8_nearestByte_6 rfl ?_
  refine g_geti (v := (NEAR P I).2) C F8 (by rw [hw]; decide) rfl (by decide) 58 (by decide) rfl (hts (.fieldLink RX8 323 "FallBenchModel" "nearValue" "I") (by decide +kernel)) rfl g2 dX8_nearestByte_7 ?_
  exact g_iret C Rr ⟨rfl, ⟨rfl, rfl, rfl, hF⟩⟩ dX8_nearestByte_10
