/-! ruled of the reference, the walk -/
abbrev rF9 (P : List act4) (I : List Int32) : Nat → Bool := fun k => (hfd (rlB P (RUN P I 0 7) (RUN P I 0 8) (RUN P I 0 9) I k) 256).isSome
theorem rb_stop {P : List act4} {I : List Int32} (hB : okI I) (hL : okL P) : rbits (rF9 P I) (RUN P I 0 5).toNatClampNeg = rbits (rF9 P I) I.length := by
  obtain ⟨rc, hrc, h5⟩ := run_read P I hL hB
  have hl := hB.1
  rw [h5, nI_clamp (by omega)]
  have : ∀ n, rc ≤ n → n ≤ I.length → rbits (rF9 P I) n = rbits (rF9 P I) rc := by
    intro n
    induction n with
    | zero => intro h1 _; obtain rfl : rc = 0 := by omega
              rfl
    | succ n ih =>
      intro h1 h2
      rcases Nat.lt_or_ge n rc with q | q
      · obtain rfl : rc = n + 1 := by omega
        rfl
      · rw [rbits, if_neg, ih q (by omega)]
        intro z
        simp only [rF9] at z
        rcases hf : hfd (rlB P (RUN P I 0 7) (RUN P I 0 8) (RUN P I 0 9) I n) 256 with _ | v
        · rw [hf] at z; cases z
        · have := (hfd_spec hf).2.2.2
          rw [run_unread hB (nI v) hrc h5 q] at this
          exact this rfl
  exact (this I.length hrc (Nat.le_refl _)).symm
def qF (M M' : Nat → Nat → Int32) : Prop := ∀ x y, ¬ (x = 134 ∧ (29 ≤ y ∧ y ≤ 38 ∨ 54 ≤ y ∧ y ≤ 56)) → ¬ (148 ≤ x ∧ x ≤ 152) → M' x y = M x y
theorem qF.prog {M M' : Nat → Nat → Int32} {s : Nat} {P : List act4} (hF : qF M M') (h : progN M s P) : progN M' s P :=
  ⟨h.1, by rw [hF 141 s (by omega) (by omega)]; exact h.2.1, fun k hk => by rw [hF 137 _ (by omega) (by omega), hF 138 _ (by omega) (by omega), hF 139 _ (by omega) (by omega), hF 140 _ (by omega) (by omega)]; exact h.2.2 k hk⟩

set_option maxHeartbeats 4000000 in
set_option maxRecDepth 100000 in
theorem c_X8_ruled_no {l : Launch} {D : va_G} {w : gw} {M : Nat → Nat → Int32} {J : Nat → Nat → Int64} {R : Nat → Nat → Option Nat} (hw : w.1 = 166) (hR : LayM R) {a i : Int32} (hno : isSh a = 0 ∨ isIn (M 134 23) i = 0) : Cf l yX8_ruled wsX8_ruled ({ frames := 3, cells := 0, slots := 0, locals := 75 } : Room) D w [.ref (w.2.1 134), .int a, .int i] M J R (some (.int (-1))) M J R := by
  refine Cg.of (own := RX8) (cc := cX8_ruled) (maxL := 8) (ret := (some .int)) 5 (by decide) rfl rfl (Nat.le_of_ble_eq_true rfl) (fun X C hts V Rr => ?_)
  have F8 : FW X 8 := fun q h => hts q (List.mem_cons_of_mem _ (List.mem_append_right _ h))
  show Gj X 0 0 w M J R 0 [some (.ref (w.2.1 134)), some (.int a), some (.int i), none, none, none, none, none] []
  refine g_iload_n C dX8_ruled_0 rfl ?_
  refine g_callSf C hts V (gX8_ruled_X8_isShelf) rfl hdX8_isShelf (by decide) c_X8_isShelf rfl rfl (Nat.le_of_ble_eq_true rfl) dX8_ruled_1 ?_
  refine g_if_eq (tgt := 15) C dX8_ruled_4 (by decide) (fun c4 => ?_) (fun c4 => ?_)
  · refine g_iconst (v := (-1)) C dX8_ruled_15 (by decide) ?_
    exact g_iret C Rr ⟨rfl, ⟨rfl, rfl⟩⟩ dX8_ruled_16
  · refine g_aload_n C dX8_ruled_7 rfl ?_
    refine g_iload_n C dX8_ruled_8 rfl ?_
    refine g_callVf C hts V (i := 134) (gX8_ruled_X8_isInput) rfl hdX8_isInput (by decide) (c_X8_isInput hw hR) (by rw [hw]; decide) rfl (by decide) rfl rfl (Nat.le_of_ble_eq_true rfl) dX8_ruled_9 ?_
    refine g_if_ne (tgt := 17) C dX8_ruled_12 (by decide) (fun c12 => ?_) (fun c12 => ?_)
    · exact absurd hno (fun z => by rcases z with z | z; exact c4 z; exact c12 z)
    · refine g_iconst (v := (-1)) C dX8_ruled_15 (by decide) ?_
      exact g_iret C Rr ⟨rfl, ⟨rfl, rfl⟩⟩ dX8_ruled_16

set_option maxHeartbeats 4000000 in
set_option maxRecDepth 100000 in
theorem c_X8_ruled {l : Launch} {D : va_G} {w : gw} {M : Nat → Nat → Int32} {J : Nat → Nat → Int64} {R : Nat → Nat → Option Nat} (hw : w.1 = 166) (hR : LayM R) {a n i : Nat} {P : List act4} {I : List Int32} (ha : a < 3) (hn : n ≤ 30) (h9 : M 134 23 = nI n) (hi : i < n) (hP : progN M a P) (hL : okL2 P) (hA : inAtM M i I) (hB : okI I) : Ct l yX8_ruled wsX8_ruled ({ frames := 3, cells := 0, slots := 0, locals := 75 } : Room) D w [.ref (w.2.1 134), .int (nI a), .int (nI i)] (M, J, R) (fun v u => v = some (.int (if RUN P I 0 8 = -1 then 0 else rbits (rF9 P I) (RUN P I 0 5).toNatClampNeg)) ∧ u.2.1 = J ∧ u.2.2 = R ∧ qF M u.1) := by
  refine Cg.of (own := RX8) (cc := cX8_ruled) (maxL := 8) (ret := (some .int)) 5 (by decide) rfl rfl (Nat.le_of_ble_eq_true rfl) (fun X C hts V Rr => ?_)
  have F8 : FW X 8 := fun q h => hts q (List.mem_cons_of_mem _ (List.mem_append_right _ h))
  show Gj X 0 0 w M J R 0 [some (.ref (w.2.1 134)), some (.int (nI a)), some (.int (nI i)), none, none, none, none, none] []
  have hl := hB.1
  have loop : ¬ RUN P I 0 8 = -1 → ∀ dd k M0 z1 z2, k + dd = I.length → qF M M0 → inN M0 I → M0 134 54 = RUN P I 0 7 → M0 134 55 = RUN P I 0 8 → Gj X 0 0 w M0 J R 54 [some (.ref (w.2.1 134)), some (.int (nI a)), some (.int (nI i)), some (.int (RUN P I 0 9)), some (.int (rbits (rF9 P I) k)), some (.int (nI k)), z1, z2] [] := by
    intro hE dd
    induction dd with
    | zero =>
      intro k M0 z1 z2 hk hF0 hI0 w1 w2
      obtain rfl : k = I.length := by omega
      refine g_iload C dX8_ruled_54 rfl ?_
      refine g_aload_n C dX8_ruled_56 rfl ?_
      refine g_geti (v := nI I.length) C F8 (by rw [hw]; decide) rfl (by decide) 29 (by decide) rfl (hts (.fieldLink RX8 231 "FallBenchModel" "byteMany" "I") (by decide +kernel)) rfl hI0.1 dX8_ruled_57 ?_
      refine g_icmp_ge (tgt := 167) C dX8_ruled_60 (by decide) (fun c60 => ?_) (fun c60 => absurd c60 (not_not_intro (nI_le (Nat.le_refl _) (by omega))))
      refine g_iload C dX8_ruled_167 rfl ?_
      exact g_iret C Rr ⟨rfl, ⟨by rw [if_neg hE, rb_stop hB hL.1], rfl, rfl, hF0⟩⟩ dX8_ruled_169
    | succ dd ih =>
      intro k M0 z1 z2 hk hF0 hI0 w1 w2
      have fin : ∀ B Mv I0 z, B = rbits (rF9 P I) (k + 1) → qF M Mv → inN Mv I0 → eqx I0 I k → Mv 134 54 = RUN P I 0 7 → Mv 134 55 = RUN P I 0 8 → Gj X 0 0 w Mv J R 152 [some (.ref (w.2.1 134)), some (.int (nI a)), some (.int (nI i)), some (.int (RUN P I 0 9)), some (.int (B)), some (.int (nI k)), some (.int (I.getD k 0)), z] [] := by
        intro B Mv I0 z hBt hFv hIv hx y1 y2
        have hk0 : k < I0.length := by rw [hx.1]; omega
        refine g_aload_n C dX8_ruled_152 rfl ?_
        refine g_getr (j := 148) C F8 (by rw [hw]; decide) rfl (by decide) 24 (by decide) rfl (hts (.fieldLink RX8 55 "FallBenchModel" "bytes" "[I") (by decide +kernel)) rfl (hR (24, 148) (by decide)) dX8_ruled_153 ?_
        refine g_iload C dX8_ruled_156 rfl ?_
        refine g_iload C dX8_ruled_158 rfl ?_
        refine g_iast C (by rw [hw]; decide) rfl (vp_in_nI (N := 24) (by omega) (by decide)) dX8_ruled_160 ?_
        refine g_iinc (v := nI (k + 1)) C V.2.1 dX8_ruled_161 rfl (nI_succ k).symm (by decide) rfl ?_
        refine g_goto (tgt := 54) C dX8_ruled_164 (by decide) ?_
        have q := hIv.set hk0 (I.getD k 0)
        rw [hx.2, set_getD9 I (by omega)] at q
        rw [nI_clamp (show k < 2 ^ 31 by omega), hBt]
        exact ih (k + 1) _ _ _ (by omega) (fun x y h1 h2 => by rw [up2_n1 _ _ (by omega)]; exact hFv x y h1 h2) q (by rw [up2_n1 _ _ (by decide)]; exact y1) (by rw [up2_n1 _ _ (by decide)]; exact y2)
      have found : ∀ v Mv I0, v ≤ 256 → rbits (rF9 P I) k ||| (1 <<< (nI k &&& 31)) = rbits (rF9 P I) (k + 1) → qF M Mv → inN Mv I0 → eqx I0 I k → Mv 134 54 = RUN P I 0 7 → Mv 134 55 = RUN P I 0 8 → Gj X 0 0 w Mv J R 75 [some (.ref (w.2.1 134)), some (.int (nI a)), some (.int (nI i)), some (.int (RUN P I 0 9)), some (.int (rbits (rF9 P I) k ||| (1 <<< (nI k &&& 31)))), some (.int (nI k)), some (.int (I.getD k 0)), some (.int (nI v))] [] := by
        intro v Mv I0 hv hBt hFv hIv hx y1 y2
        refine g_iload C dX8_ruled_75 rfl ?_
        refine g_sipush (v := 256) C dX8_ruled_77 (by decide) ?_
        refine g_icmp_ge (tgt := 152) C dX8_ruled_80 (by decide) (fun c80 => ?_) (fun c80 => ?_)
        · exact fin _ Mv I0 _ hBt hFv hIv hx y1 y2
        · refine g_iload C dX8_ruled_83 rfl ?_
          refine g_iload C dX8_ruled_85 rfl ?_
          refine g_ishr C dX8_ruled_87 ?_
          refine g_iconst (v := 1) C dX8_ruled_88 (by decide) ?_
          refine g_iand C dX8_ruled_89 ?_
          refine g_if_ne (tgt := 152) C dX8_ruled_90 (by decide) (fun c90 => ?_) (fun c90 => absurd c90 (by rw [rb_test1 _ (show k < 24 by omega)]; decide))
          exact fin _ Mv I0 _ hBt hFv hIv hx y1 y2
      have inner : ∀ ee v Mv I0, v + ee = 256 → qF M Mv → inN Mv I0 → eqx I0 I k → Mv 134 54 = RUN P I 0 7 → Mv 134 55 = RUN P I 0 8 → hfd (rlB P (RUN P I 0 7) (RUN P I 0 8) (RUN P I 0 9) I k) v = none → Gj X 0 0 w Mv J R 75 [some (.ref (w.2.1 134)), some (.int (nI a)), some (.int (nI i)), some (.int (RUN P I 0 9)), some (.int (rbits (rF9 P I) k)), some (.int (nI k)), some (.int (I.getD k 0)), some (.int (nI v))] [] := by
        intro ee
        induction ee with
        | zero =>
          intro v Mv I0 hv hFv hIv hx y1 y2 hno
          obtain rfl : v = 256 := by omega
          refine g_iload C dX8_ruled_75 rfl ?_
          refine g_sipush (v := 256) C dX8_ruled_77 (by decide) ?_
          refine g_icmp_ge (tgt := 152) C dX8_ruled_80 (by decide) (fun c80 => ?_) (fun c80 => absurd c80 (not_not_intro (by decide)))
          exact fin _ Mv I0 _ (by rw [rbits, if_neg (by simp only [rF9, hno]; decide)]) hFv hIv hx y1 y2
        | succ ee ih2 =>
          intro v Mv I0 hv hFv hIv hx y1 y2 hno
          have hk0 : k < I0.length := by rw [hx.1]; omega
          have q := hIv.set hk0 (nI v)
          rw [hx.2] at q
          have hFq : qF M (up2 Mv 148 k (nI v)) := fun x y h1 h2 => by rw [up2_n1 _ _ (by omega)]; exact hFv x y h1 h2
          refine g_iload C dX8_ruled_75 rfl ?_
          refine g_sipush (v := 256) C dX8_ruled_77 (by decide) ?_
          refine g_icmp_ge (tgt := 152) C dX8_ruled_80 (by decide) (fun c80 => absurd c80 (fun y => absurd ((nI_leI (a := 256) (b := v) (by decide) (by omega)).mp y) (by omega))) (fun c80 => ?_)
          refine g_iload C dX8_ruled_83 rfl ?_
          refine g_iload C dX8_ruled_85 rfl ?_
          refine g_ishr C dX8_ruled_87 ?_
          refine g_iconst (v := 1) C dX8_ruled_88 (by decide) ?_
          refine g_iand C dX8_ruled_89 ?_
          refine g_if_ne (tgt := 152) C dX8_ruled_90 (by decide) (fun c90 => absurd c90 (fun y => y (rb_test0 _ (show k < 24 by omega)))) (fun c90 => ?_)
          refine g_aload_n C dX8_ruled_93 rfl ?_
          refine g_getr (j := 148) C F8 (by rw [hw]; decide) rfl (by decide) 24 (by decide) rfl (hts (.fieldLink RX8 55 "FallBenchModel" "bytes" "[I") (by decide +kernel)) rfl (hR (24, 148) (by decide)) dX8_ruled_94 ?_
          refine g_iload C dX8_ruled_97 rfl ?_
          refine g_iload C dX8_ruled_99 rfl ?_
          refine g_iast C (by rw [hw]; decide) rfl (vp_in_nI (N := 24) (by omega) (by decide)) dX8_ruled_101 ?_
          refine Gj_mem (M' := up2 Mv 148 k (nI v)) (by rw [nI_clamp (show k < 2 ^ 31 by omega)]) ?_
          refine g_aload_n C dX8_ruled_102 rfl ?_
          refine g_iload_n C dX8_ruled_103 rfl ?_
          refine g_callVt C hts V (i := 134) (gX8_ruled_X8_runOn) rfl hdX8_runOn (by decide) (c_X8_runOn hw hR ha (hFq.prog hP) q hL (hB.set (by omega) k)) (by rw [hw]; decide) rfl (by decide) rfl rfl (Nat.le_of_ble_eq_true rfl) dX8_ruled_104 (fun v M1 J1 R1 h => ?_)
          obtain ⟨h0, hJ, hR1, hF, hQ⟩ := h
          subst h0
          have hJ := Eq.symm hJ
          subst hJ
          have hR1 := Eq.symm hR1
          subst hR1
          try dsimp only at hF hQ
          have g7 : M1 134 30 = RUN P (I.set k (nI v)) 0 7 := (hQ.1 7 (by decide) (by decide)).symm
          have g8 : M1 134 31 = RUN P (I.set k (nI v)) 0 8 := (hQ.1 8 (by decide) (by decide)).symm
          have g9 : M1 134 32 = RUN P (I.set k (nI v)) 0 9 := (hQ.1 9 (by decide) (by decide)).symm
          have hF1 : qF M M1 := fun x y h1 h2 => by rw [hF x y (by omega) (by omega)]; exact hFq x y h1 h2
          have x1 : M1 134 54 = RUN P I 0 7 := by rw [hF 134 54 (by omega) (by omega), up2_n1 _ _ (by decide)]; exact y1
          have x2 : M1 134 55 = RUN P I 0 8 := by rw [hF 134 55 (by omega) (by omega), up2_n1 _ _ (by decide)]; exact y2
          have q1 : inN M1 (I.set k (nI v)) := q.F hF
          show Gj X 0 0 w M1 J R 107 [some (.ref (w.2.1 134)), some (.int (nI a)), some (.int (nI i)), some (.int (RUN P I 0 9)), some (.int (rbits (rF9 P I) k)), some (.int (nI k)), some (.int (I.getD k 0)), some (.int (nI v))] []
          refine g_aload_n C dX8_ruled_107 rfl ?_
          refine g_geti (v := RUN P (I.set k (nI v)) 0 7) C F8 (by rw [hw]; decide) rfl (by decide) 30 (by decide) rfl (hts (.fieldLink RX8 234 "FallBenchModel" "ended" "I") (by decide +kernel)) rfl g7 dX8_ruled_108 ?_
          refine g_aload_n C dX8_ruled_111 rfl ?_
          refine g_geti (v := RUN P I 0 7) C F8 (by rw [hw]; decide) rfl (by decide) 54 (by decide) rfl (hts (.fieldLink RX8 298 "FallBenchModel" "wantEnd" "I") (by decide +kernel)) rfl x1 dX8_ruled_112 ?_
          refine g_icmp_ne (tgt := 146) C dX8_ruled_115 (by decide) (fun c115 => ?_) (fun c115 => ?_)
          · refine g_iinc (v := nI (v + 1)) C V.2.1 dX8_ruled_146 rfl (nI_succ v).symm (by decide) rfl ?_
            refine g_goto (tgt := 75) C dX8_ruled_149 (by decide) ?_
            exact ih2 (v + 1) _ _ (by omega) hF1 q1 ((eqx.rf I k).set _) x1 x2 (by rw [hfd_s hno, if_neg (fun y => c115 y.1)])
          · refine g_aload_n C dX8_ruled_118 rfl ?_
            refine g_geti (v := RUN P (I.set k (nI v)) 0 8) C F8 (by rw [hw]; decide) rfl (by decide) 31 (by decide) rfl (hts (.fieldLink RX8 237 "FallBenchModel" "endAct" "I") (by decide +kernel)) rfl g8 dX8_ruled_119 ?_
            refine g_aload_n C dX8_ruled_122 rfl ?_
            refine g_geti (v := RUN P I 0 8) C F8 (by rw [hw]; decide) rfl (by decide) 55 (by decide) rfl (hts (.fieldLink RX8 301 "FallBenchModel" "wantAct" "I") (by decide +kernel)) rfl x2 dX8_ruled_123 ?_
            refine g_icmp_ne (tgt := 146) C dX8_ruled_126 (by decide) (fun c126 => ?_) (fun c126 => ?_)
            · refine g_iinc (v := nI (v + 1)) C V.2.1 dX8_ruled_146 rfl (nI_succ v).symm (by decide) rfl ?_
              refine g_goto (tgt := 75) C dX8_ruled_149 (by decide) ?_
              exact ih2 (v + 1) _ _ (by omega) hF1 q1 ((eqx.rf I k).set _) x1 x2 (by rw [hfd_s hno, if_neg (fun y => c126 y.2.1)])
            · refine g_aload_n C dX8_ruled_129 rfl ?_
              refine g_geti (v := RUN P (I.set k (nI v)) 0 9) C F8 (by rw [hw]; decide) rfl (by decide) 32 (by decide) rfl (hts (.fieldLink RX8 240 "FallBenchModel" "wrongValue" "I") (by decide +kernel)) rfl g9 dX8_ruled_130 ?_
              refine g_iload_n C dX8_ruled_133 rfl ?_
              refine g_icmp_eq (tgt := 146) C dX8_ruled_134 (by decide) (fun c134 => ?_) (fun c134 => ?_)
              · refine g_iinc (v := nI (v + 1)) C V.2.1 dX8_ruled_146 rfl (nI_succ v).symm (by decide) rfl ?_
                refine g_goto (tgt := 75) C dX8_ruled_149 (by decide) ?_
                exact ih2 (v + 1) _ _ (by omega) hF1 q1 ((eqx.rf I k).set _) x1 x2 (by rw [hfd_s hno, if_neg (fun y => y.2.2 c134)])
              · refine g_iload C dX8_ruled_137 rfl ?_
                refine g_iconst (v := 1) C dX8_ruled_139 (by decide) ?_
                refine g_iload C dX8_ruled_140 rfl ?_
                refine g_ishl C dX8_ruled_142 ?_
                refine g_ior C dX8_ruled_143 ?_
                refine g_istore C V.2.1 dX8_ruled_144 (by decide) rfl ?_
                refine g_iinc (v := nI (v + 1)) C V.2.1 dX8_ruled_146 rfl (nI_succ v).symm (by decide) rfl ?_
                refine g_goto (tgt := 75) C dX8_ruled_149 (by decide) ?_
                exact found (v + 1) M1 _ (by omega) (by rw [rbits, if_pos (by simp only [rF9]; rw [hfd_up (n := v + 1) (h := v) (by rw [hfd_s hno, if_pos ⟨c115, c126, c134⟩]) 256 (by omega)]; rfl)]) hF1 q1 ((eqx.rf I k).set _) x1 x2
      refine g_iload C dX8_ruled_54 rfl ?_
      refine g_aload_n C dX8_ruled_56 rfl ?_
      refine g_geti (v := nI I.length) C F8 (by rw [hw]; decide) rfl (by decide) 29 (by decide) rfl (hts (.fieldLink RX8 231 "FallBenchModel" "byteMany" "I") (by decide +kernel)) rfl hI0.1 dX8_ruled_57 ?_
      refine g_icmp_ge (tgt := 167) C dX8_ruled_60 (by decide) (fun c60 => absurd c60 (nI_ge (by omega) (by omega))) (fun c60 => ?_)
      refine g_aload_n C dX8_ruled_63 rfl ?_
      refine g_getr (j := 148) C F8 (by rw [hw]; decide) rfl (by decide) 24 (by decide) rfl (hts (.fieldLink RX8 55 "FallBenchModel" "bytes" "[I") (by decide +kernel)) rfl (hR (24, 148) (by decide)) dX8_ruled_64 ?_
      refine g_iload C dX8_ruled_67 rfl ?_
      refine g_iald (v := I.getD k 0) C (by rw [hw]; decide) rfl (vp_in_nI (N := 24) (by omega) (by decide)) (by rw [nI_clamp (by omega)]; exact hI0.2 k (by omega)) dX8_ruled_69 ?_
      refine g_istore C V.2.1 dX8_ruled_70 (by decide) rfl ?_
      refine g_iconst (v := 0) C dX8_ruled_72 (by decide) ?_
      refine g_istore C V.2.1 dX8_ruled_73 (by decide) rfl ?_
      exact inner 256 0 M0 I (by decide) hF0 hI0 (eqx.rf I k) w1 w2 rfl
  refine g_iload_n C dX8_ruled_0 rfl ?_
  refine g_callSf C hts V (gX8_ruled_X8_isShelf) rfl hdX8_isShelf (by decide) c_X8_isShelf rfl rfl (Nat.le_of_ble_eq_true rfl) dX8_ruled_1 ?_
  refine g_if_eq (tgt := 15) C dX8_ruled_4 (by decide) (fun c4 => absurd c4 (isSh_n ha)) (fun c4 => ?_)
  refine g_aload_n C dX8_ruled_7 rfl ?_
  refine g_iload_n C dX8_ruled_8 rfl ?_
  refine g_callVf C hts V (i := 134) (gX8_ruled_X8_isInput) rfl hdX8_isInput (by decide) (c_X8_isInput hw hR) (by rw [hw]; decide) rfl (by decide) rfl rfl (Nat.le_of_ble_eq_true rfl) dX8_ruled_9 ?_
  refine g_if_ne (tgt := 17) C dX8_ruled_12 (by decide) (fun c12 => ?_) (fun c12 => absurd c12 (by rw [h9]; exact isIn_n hn hi))
  refine g_aload_n C dX8_ruled_17 rfl ?_
  refine g_iload_n C dX8_ruled_18 rfl ?_
  refine g_callVf C hts V (i := 134) (gX8_ruled_X8_use) rfl hdX8_use (by decide) (c_X8_use hw hR (by omega) hA.1 hB.1) (by rw [hw]; decide) rfl (by decide) rfl rfl (Nat.le_of_ble_eq_true rfl) dX8_ruled_19 ?_
  refine g_aload_n C dX8_ruled_22 rfl ?_
  refine g_iload_n C dX8_ruled_23 rfl ?_
  refine g_callVt C hts V (i := 134) (gX8_ruled_X8_runOn) rfl hdX8_runOn (by decide) (c_X8_runOn hw hR ha (use_prog hP) (use_in hA) hL hB) (by rw [hw]; decide) rfl (by decide) rfl rfl (Nat.le_of_ble_eq_true rfl) dX8_ruled_24 (fun v M1 J1 R1 h => ?_)
  obtain ⟨h0, hJ, hR1, hF, hQ⟩ := h
  subst h0
  have hJ := Eq.symm hJ
  subst hJ
  have hR1 := Eq.symm hR1
  subst hR1
  try dsimp only at hF hQ
  have hFs : qF M M1 := fun x y h1 h2 => use_rF hF x y (by omega) (by omega)
  have g7 : M1 134 30 = RUN P I 0 7 := (hQ.1 7 (by decide) (by decide)).symm
  have g8 : M1 134 31 = RUN P I 0 8 := (hQ.1 8 (by decide) (by decide)).symm
  have g9 : M1 134 32 = RUN P I 0 9 := (hQ.1 9 (by decide) (by decide)).symm
  show Gj X 0 0 w M1 J R 27 [some (.ref (w.2.1 134)), some (.int (nI a)), some (.int (nI i)), none, none, none, none, none] []
  refine g_aload_n C dX8_ruled_27 rfl ?_
  refine g_geti (v := RUN P I 0 7) C F8 (by rw [hw]; decide) rfl (by decide) 30 (by decide) rfl (hts (.fieldLink RX8 234 "FallBenchModel" "ended" "I") (by decide +kernel)) rfl g7 dX8_ruled_28 ?_
  refine g_callSf C hts V (gX8_ruled_X8_isFall) rfl hdX8_isFall (by decide) c_X8_isFall rfl rfl (Nat.le_of_ble_eq_true rfl) dX8_ruled_31 ?_
  refine g_if_ne (tgt := 39) C dX8_ruled_34 (by decide) (fun c34 => ?_) (fun c34 => ?_)
  · refine g_aload_n C dX8_ruled_39 rfl ?_
    refine g_callVf C hts V (i := 134) (gX8_ruled_X8_want) rfl hdX8_want (by decide) (c_X8_want hw hR) (by rw [hw]; decide) rfl (by decide) rfl rfl (Nat.le_of_ble_eq_true rfl) dX8_ruled_40 ?_
    refine g_aload_n C dX8_ruled_43 rfl ?_
    refine g_geti (v := RUN P I 0 9) C F8 (by rw [hw]; decide) rfl (by decide) 32 (by decide) rfl (hts (.fieldLink RX8 240 "FallBenchModel" "wrongValue" "I") (by decide +kernel)) rfl (by simp only [n_want]; rw [up2_n2 _ _ (by decide), up2_n2 _ _ (by decide), up2_n2 _ _ (by decide)]; exact g9) dX8_ruled_44 ?_
    refine g_istore_n C V.2.1 dX8_ruled_47 (by decide) rfl ?_
    refine g_iconst (v := 0) C dX8_ruled_48 (by decide) ?_
    refine g_istore C V.2.1 dX8_ruled_49 (by decide) rfl ?_
    refine g_iconst (v := 0) C dX8_ruled_51 (by decide) ?_
    refine g_istore C V.2.1 dX8_ruled_52 (by decide) rfl ?_
    have hw9 : ∀ x y, ¬ (x = 134 ∧ 54 ≤ y ∧ y ≤ 56) → n_want M1 x y = M1 x y := fun x y h => by simp only [n_want]; rw [up2_n (by omega), up2_n (by omega), up2_n (by omega)]
    exact loop (fun z => c34 ((run_fall hL.1 hB).mp z)) I.length 0 _ _ _ (by omega) (fun x y h1 h2 => by rw [hw9 x y (by omega)]; exact hFs x y h1 h2) (show inN (n_want M1) I from ⟨by rw [hw9 134 29 (by omega)]; exact ((use_in hA).F hF).1, fun k hk => by rw [hw9 148 k (by omega)]; exact ((use_in hA).F hF).2 k hk⟩) (by simp only [n_want]; rw [up2_n2 _ _ (by decide), up2_n2 _ _ (by decide), up2_eq]; exact g7) (by simp only [n_want]; rw [up2_n2 _ _ (by decide), up2_eq]; exact g8)
  · refine g_iconst (v := 0) C dX8_ruled_37 (by decide) ?_
    exact g_iret C Rr ⟨rfl, ⟨by rw [if_pos ((run_fall hL.1 hB).mpr c34)], rfl, rfl, hFs⟩⟩ dX8_ruled_38
