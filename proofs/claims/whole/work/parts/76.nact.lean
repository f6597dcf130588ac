/-! THE REFERENCE'S PARSER: readAct -/
def acM (T : List Int32) (M : Nat → Nat → Int32) (J : Nat → Nat → Int64) (c : Nat) (K : Int32) (x : px) (r s n : Int32) (m : Nat → Nat → Int32) (j : Nat → Nat → Int64) : Prop := pxM T m j x ∧ m 137 (240 + c) = K ∧ (x.2.1 = 0 → m 138 (240 + c) = r ∧ m 139 (240 + c) = s ∧ m 140 (240 + c) = n) ∧ m 141 3 = nI (c + 1) ∧ (∀ x y, ¬ (x = 134 ∧ 4 ≤ y ∧ y ≤ 9) → ¬ (137 ≤ x ∧ x ≤ 140 ∧ y = 240 + c) → ¬ (x = 141 ∧ y = 3) → ¬ (x = 143 ∧ y = c) → m x y = M x y) ∧ (∀ x y, ¬ (x = 134 ∧ y = 10) → ¬ (x = 145 ∧ y = c) → j x y = J x y)
section AC
variable {T : List Int32} {M m m1 : Nat → Nat → Int32} {J j j1 : Nat → Nat → Int64} {c : Nat} {K r s n v v' : Int32} {x y : px}
theorem acM.nf (h : acM T M J c K x r s n m j) (hp : pxM T m1 j1 y) (hF : nfF m m1) (hJ : nfJ j j1) (h0 : y.2.1 = 0 → x.2.1 = 0) : acM T M J c K y r s n m1 j1 := by
  obtain ⟨a1, a2, a3, a4, a5, a6⟩ := h
  refine ⟨hp, (hF _ _ (by omega)).trans a2, fun z => ?_, (hF _ _ (by omega)).trans a4, fun x y q1 q2 q3 q4 => (hF x y q1).trans (a5 x y q1 q2 q3 q4), fun x y q1 q2 => (hJ x y q1).trans (a6 x y q1 q2)⟩
  rw [hF 138 _ (by omega), hF 139 _ (by omega), hF 140 _ (by omega)]
  exact a3 (h0 z)

theorem acM.s1 (h : acM T M J c K x r s n m j) (hv : x.2.1 = 0 → v = v') : acM T M J c K x v' s n (up2 m 138 (240 + c) v) j := by
  obtain ⟨a1, a2, a3, a4, a5, a6⟩ := h
  refine ⟨a1.o (fun y _ _ => up2_n1 _ _ (by decide)) (fun k => up2_n1 _ _ (by decide)) rfl, by rw [up2_n1 _ _ (by decide)]; exact a2, fun z => ⟨(by rw [up2_eq]; exact hv z), (by rw [up2_n1 _ _ (by decide)]; exact (a3 z).2.1), (by rw [up2_n1 _ _ (by decide)]; exact (a3 z).2.2)⟩, by rw [up2_n1 _ _ (by decide)]; exact a4, fun x y q1 q2 q3 q4 => ?_, a6⟩
  rw [up2_nb (fun z => q2 ⟨by omega, by omega, z.2⟩)]
  exact a5 x y q1 q2 q3 q4
theorem acM.s2 (h : acM T M J c K x r s n m j) (hv : x.2.1 = 0 → v = v') : acM T M J c K x r v' n (up2 m 139 (240 + c) v) j := by
  obtain ⟨a1, a2, a3, a4, a5, a6⟩ := h
  refine ⟨a1.o (fun y _ _ => up2_n1 _ _ (by decide)) (fun k => up2_n1 _ _ (by decide)) rfl, by rw [up2_n1 _ _ (by decide)]; exact a2, fun z => ⟨(by rw [up2_n1 _ _ (by decide)]; exact (a3 z).1), (by rw [up2_eq]; exact hv z), (by rw [up2_n1 _ _ (by decide)]; exact (a3 z).2.2)⟩, by rw [up2_n1 _ _ (by decide)]; exact a4, fun x y q1 q2 q3 q4 => ?_, a6⟩
  rw [up2_nb (fun z => q2 ⟨by omega, by omega, z.2⟩)]
  exact a5 x y q1 q2 q3 q4
theorem acM.s3 (h : acM T M J c K x r s n m j) (hv : x.2.1 = 0 → v = v') : acM T M J c K x r s v' (up2 m 140 (240 + c) v) j := by
  obtain ⟨a1, a2, a3, a4, a5, a6⟩ := h
  refine ⟨a1.o (fun y _ _ => up2_n1 _ _ (by decide)) (fun k => up2_n1 _ _ (by decide)) rfl, by rw [up2_n1 _ _ (by decide)]; exact a2, fun z => ⟨(by rw [up2_n1 _ _ (by decide)]; exact (a3 z).1), (by rw [up2_n1 _ _ (by decide)]; exact (a3 z).2.1), (by rw [up2_eq]; exact hv z)⟩, by rw [up2_n1 _ _ (by decide)]; exact a4, fun x y q1 q2 q3 q4 => ?_, a6⟩
  rw [up2_nb (fun z => q2 ⟨by omega, by omega, z.2⟩)]
  exact a5 x y q1 q2 q3 q4
end AC
theorem rk_1 {k : Int32} (h : k = 1) : rk k = 2 := rk_of (c := 1) (by decide) h
theorem rgA : ∀ kk, kk < 14 → ((rg (nI kk) < 1) ↔ (¬ nI kk < 10 ∧ ¬ nI kk = 11 ∧ ¬ nI kk = 12)) := by decide +kernel
theorem rgB : ∀ kk, kk < 14 → ((rg (nI kk) < 2) ↔ (nI kk < 2 ∨ 10 ≤ nI kk)) := by decide +kernel
theorem goA : ∀ kk, kk < 14 → ((goL (nI kk) = 0) ↔ (nI kk < 8 ∨ 10 < nI kk)) := by decide +kernel
/-- the new act -/
theorem acM.fin {T : List Int32} {M m : Nat → Nat → Int32} {J j : Nat → Nat → Int64} {K : Int32} {x x1 y : px} {L : pL} {A : List act6} {r s n : Int32} {W : List Int32} {P : Int32} (hs : stM T M J (x, L, A)) (h0 : x.2.1 = 0) (h : acM T M J A.length K y r s n m j) (hA : A.length < 80) (hw : y.2.1 = 0 → ¬ goL K = 0 → okW W ∧ j 145 A.length = enc8 W ∧ m 143 A.length = P) : stM T m j (y, L, A ++ [((K, r, s, n), W, P)]) ∧ mF M m ∧ mJ J j := by
  obtain ⟨a1, a2, a3, a4, a5, a6⟩ := h
  obtain ⟨b1, b2, b3, b4⟩ := hs.2.2 h0
  refine ⟨⟨a1, ⟨a1.2.1, hs.2.1.2.1, by show (A ++ [_]).length ≤ 80; rw [snoc_len]; omega⟩, fun z => ⟨b1.o (a5 _ _ (by omega) (by omega) (by omega) (by omega)) (fun j => a5 _ _ (by omega) (by omega) (by omega) (by omega)) (fun j => a6 _ _ (by omega) (by omega)), ⟨?_, fun k hk => ?_⟩, b3, b4.snoc (fun q => (hw z q).1)⟩⟩, fun x y q1 q2 q3 q4 q5 => a5 x y (fun z => q1 ⟨z.1, Or.inl z.2⟩) (fun z => q4 ⟨z.1, z.2.1, by omega⟩) q5 (fun z => q3 z.1), fun x y q1 q2 q3 => a6 x y q1 (fun z => q3 z.1)⟩
  · dsimp only; rw [snoc_len]; exact a4
  · dsimp only at hk ⊢
    rw [snoc_len] at hk
    rcases Nat.lt_or_ge k A.length with g | g
    · rw [snoc_lt g, a5 137 _ (by omega) (by omega) (by omega) (by omega), a5 138 _ (by omega) (by omega) (by omega) (by omega), a5 139 _ (by omega) (by omega) (by omega) (by omega), a5 140 _ (by omega) (by omega) (by omega) (by omega), a5 143 _ (by omega) (by omega) (by omega) (by omega), a6 145 _ (by omega) (by omega)]
      exact b2.2 k g
    · obtain rfl : k = A.length := by omega
      rw [snoc_eq rfl, a2, (a3 z).1, (a3 z).2.1, (a3 z).2.2]
      exact ⟨rfl, fun q => (hw z q).2⟩
theorem t_take2_0 {T : List Int32} {x : px} (h : (t_take T 2 x).2.1 = 0) : x.2.1 = 0 := t_take_0 h

theorem acM.w {T : List Int32} {M m : Nat → Nat → Int32} {J j : Nat → Nat → Int64} {c : Nat} {K r s n v : Int32} {v2 : Int64} {x : px} (h : acM T M J c K x r s n m j) : acM T M J c K x r s n (up2 m 143 c v) (up2 j 145 c v2) := by
  obtain ⟨a1, a2, a3, a4, a5, a6⟩ := h
  refine ⟨a1.o (fun y _ _ => up2_n1 _ _ (by decide)) (fun k => up2_n1 _ _ (by decide)) (up2_n1 _ _ (by decide)), by rw [up2_n1 _ _ (by decide)]; exact a2, fun z => ?_, by rw [up2_n1 _ _ (by decide)]; exact a4, fun x y q1 q2 q3 q4 => by rw [up2_nb q4]; exact a5 x y q1 q2 q3 q4, fun x y q1 q2 => by rw [up2_nb q2]; exact a6 x y q1 q2⟩
  rw [up2_n1 _ _ (by decide), up2_n1 _ _ (by decide), up2_n1 _ _ (by decide)]
  exact a3 z

set_option maxHeartbeats 4000000 in
set_option maxRecDepth 100000 in
theorem c_X8_readAct {l : Launch} {D : va_G} {w : gw} {M : Nat → Nat → Int32} {J : Nat → Nat → Int64} {R : Nat → Nat → Option Nat} (hw : w.1 = 166) (hR : LayM R) {T : List Int32} (hX : okX T) {x : px} {L : pL} {A : List act6} (hs : stM T M J (x, L, A)) (h0 : x.2.1 = 0) (hw1 : tK T x.1 = 1) {kk : Nat} (hk14 : kk < 14) (hkk : kwd (tW T x.1) = nI kk) : Ct l yX8_readAct wsX8_readAct ({ frames := 4, cells := 0, slots := 0, locals := 86 } : Room) D w [.ref (w.2.1 134)] (M, J, R) (fun v u => v = none ∧ u.2.2 = R ∧ stM T u.1 u.2.1 ((t_mid T x A).1, L, (t_mid T x A).2) ∧ mF M u.1 ∧ mJ J u.2.1) := by
  obtain ⟨hpx, hoS, hgd⟩ := id hs
  dsimp only at hpx hgd
  have hl : live T x.1 := hoS.1
  refine Cg.of (own := RX8) (cc := cX8_readAct) (maxL := 4) (ret := none) 3 (by decide) rfl rfl (Nat.le_of_ble_eq_true rfl) (fun X C hts V Rr => ?_)
  have F8 : FW X 8 := fun q h => hts q (List.mem_cons_of_mem _ (List.mem_append_right _ h))
  show Gj X 0 0 w M J R 0 [some (.ref (w.2.1 134)), none, none, none] []
  obtain ⟨hLb, hAc, hoL, hoA⟩ := hgd h0
  have hW : okW (tW T x.1) := tW_ok hw1
  have hA80 : A.length ≤ 80 := hoS.2.2
  have hn := hpx.2.2.2.2 h0
  have e10 := hn.2.2.2.2 hw1
  have hg := px_good hpx h0
  have k0 : ¬ tK T x.1 = 0 := by rw [hw1]; decide
  have k6 : ¬ tK T x.1 = 6 := by rw [hw1]; decide
  have hbe : t_bad T x = t_flt T 2 x := by unfold t_bad; rw [if_neg k0]
  have e1 : t_take T 1 x = (x.1 + 1, 0, x.2.2) := t_take_ok h0 hw1
  by_cases h80 : 80 ≤ A.length
  · have hmid : t_mid T x A = (t_flt T 2 x, A) := by unfold t_mid; rw [if_pos ⟨h0, hw1⟩, if_pos h80]
    refine g_aload_n C dX8_readAct_0 rfl ?_
    refine g_getr (j := 141) C F8 (by rw [hw]; decide) rfl (by decide) 15 (by decide) rfl (hts (.fieldLink RX8 33 "FallBenchModel" "many" "[I") (by decide +kernel)) rfl (hR (15, 141) (by decide)) dX8_readAct_1 ?_
    refine g_iconst (v := 3) C dX8_readAct_4 (by decide) ?_
    refine g_iald (v := nI A.length) C (by rw [hw]; decide) rfl (vp_in_nI (N := 4) (n := 3) (by decide) (by decide)) hAc.1 dX8_readAct_5 ?_
    refine g_bipush (v := 80) C dX8_readAct_6 (by decide) ?_
    refine g_icmp_ne (tgt := 15) C dX8_readAct_8 (by decide) (fun c8 => absurd c8 (not_not_intro (show nI A.length = 80 by rw [show A.length = 80 by omega]; rfl))) (fun c8 => ?_)
    refine g_aload_n C dX8_readAct_11 rfl ?_
    refine g_callVf C hts V (i := 134) (gX8_readAct_X8_wrong) rfl hdX8_wrong (by decide) (c_X8_wrong hw hR hg) (by rw [hw]; decide) rfl (by decide) rfl rfl (Nat.le_of_ble_eq_true rfl) dX8_readAct_12 ?_
    refine g_aload_n C dX8_readAct_15 rfl ?_
    refine g_callVf C hts V (i := 134) (gX8_readAct_X8_isGood) rfl hdX8_isGood (by decide) (Cf.to (c_X8_isGood hw hR) (congrArg (fun z => some (Value.int z)) (show _ = (0 : Int32) from if_neg (px_ng (px_bad hpx h0) (t_bad_ne T x)))) rfl) (by rw [hw]; decide) rfl (by decide) rfl rfl (Nat.le_of_ble_eq_true rfl) dX8_readAct_16 ?_
    refine g_if_ne (tgt := 23) C dX8_readAct_19 (by decide) (fun c19 => absurd c19 (not_not_intro rfl)) (fun c19 => ?_)
    exact g_vret C Rr ⟨rfl, ⟨rfl, rfl, by rw [hmid, ← hbe]; exact hs.nf (px_bad hpx h0) (nf_w _ _ _) (nfJ.rf J) (fun _ => h0), (nf_w _ _ _).m, mJ.rf J⟩⟩ dX8_readAct_22
  have hc : A.length < 80 := by omega
  have ne80 : ¬ nI A.length = 80 := fun q => by
    have q2 := congrArg Int32.toNatClampNeg q
    rw [nI_clamp (by omega)] at q2
    have q3 : A.length = 80 := q2
    omega
  have hmid : t_mid T x A = ((t_act T (nI kk) (t_take T 1 x)).1, A ++ [(t_act T (nI kk) (t_take T 1 x)).2]) := by unfold t_mid; rw [if_pos ⟨h0, hw1⟩, if_neg h80, hkk]
  have hb : ∀ i, ln i = 320 → vp_in (nI (240 + A.length)) (ln i) := fun i hi => by rw [hi]; exact vp_in_nI (by omega) (by decide)
  have fin : ∀ m j, acM T M J A.length (nI kk) (a_x5 T (nI kk) (a_4 T (nI kk) (t_take T 1 x))) (a_r T (nI kk) (t_take T 1 x)) (a_s T (nI kk) (a_x2 T (nI kk) (t_take T 1 x))) (a_n T (nI kk) (a_x3 T (nI kk) (a_x2 T (nI kk) (t_take T 1 x)))) m j → ((a_x5 T (nI kk) (a_4 T (nI kk) (t_take T 1 x))).2.1 = 0 → ¬ goL (nI kk) = 0 → okW (tW T (a_4 T (nI kk) (t_take T 1 x)).1) ∧ j 145 A.length = enc8 (tW T (a_4 T (nI kk) (t_take T 1 x)).1) ∧ m 143 A.length = tP T (a_4 T (nI kk) (t_take T 1 x)).1) → stM T m j ((t_mid T x A).1, L, (t_mid T x A).2) ∧ mF M m ∧ mJ J j := by
    intro m j q1 q2
    rw [hmid]
    exact acM.fin (x1 := (t_take T 1 x)) hs h0 q1 hc q2
  have a177 : ∀ m j, acM T M J A.length (nI kk) (a_4 T (nI kk) (t_take T 1 x)) (a_r T (nI kk) (t_take T 1 x)) (a_s T (nI kk) (a_x2 T (nI kk) (t_take T 1 x))) (a_n T (nI kk) (a_x3 T (nI kk) (a_x2 T (nI kk) (t_take T 1 x)))) m j → Gj X 0 0 w m j R 177 [some (.ref (w.2.1 134)), some (.int (nI A.length)), some (.int (nI (240 + A.length))), some (.int (nI kk))] [] := by
    intro m j q
    by_cases hgo : goL (nI kk) = 0
    · have ex : a_x5 T (nI kk) (a_4 T (nI kk) (t_take T 1 x)) = (a_4 T (nI kk) (t_take T 1 x)) := if_pos hgo
      obtain ⟨f1, f2, f3⟩ := fin m j (by rw [ex]; exact q) (fun _ z => absurd hgo z)
      have hgg := (goA kk hk14).mp hgo
      refine g_iload_n C dX8_readAct_177 rfl ?_
      refine g_bipush (v := 8) C dX8_readAct_178 (by decide) ?_
      refine g_icmp_lt (tgt := 196) C dX8_readAct_180 (by decide) (fun c180 => ?_) (fun c180 => ?_)
      · exact g_vret C Rr ⟨rfl, ⟨rfl, rfl, f1, f2, f3⟩⟩ dX8_readAct_196
      · refine g_iload_n C dX8_readAct_183 rfl ?_
        refine g_bipush (v := 10) C dX8_readAct_184 (by decide) ?_
        refine g_icmp_gt (tgt := 196) C dX8_readAct_186 (by decide) (fun c186 => ?_) (fun c186 => ?_)
        · exact g_vret C Rr ⟨rfl, ⟨rfl, rfl, f1, f2, f3⟩⟩ dX8_readAct_196
        · exact absurd hgg (fun z => z.elim c180 c186)
    · have ex : a_x5 T (nI kk) (a_4 T (nI kk) (t_take T 1 x)) = t_want T (a_4 T (nI kk) (t_take T 1 x)) := if_neg hgo
      have hng : ¬ ((nI kk) < 8 ∨ 10 < (nI kk)) := fun z => hgo ((goA kk hk14).mpr z)
      by_cases h4 : (a_4 T (nI kk) (t_take T 1 x)).2.1 = 0
      · have hn4 := q.1.2.2.2.2 h4
        have hg4 := px_good q.1 h4
        have hl4 : live T (a_4 T (nI kk) (t_take T 1 x)).1 := q.1.2.1
        by_cases hil : isLab T (a_4 T (nI kk) (t_take T 1 x)).1
        · have hk1 := hil.1
          have e4 := hn4.2.2.2.2 hk1
          have q6 : acM T M J A.length (nI kk) (a_4 T (nI kk) (t_take T 1 x)) (a_r T (nI kk) (t_take T 1 x)) (a_s T (nI kk) (a_x2 T (nI kk) (t_take T 1 x))) (a_n T (nI kk) (a_x3 T (nI kk) (a_x2 T (nI kk) (t_take T 1 x)))) (up2 m 143 A.length (tP T (a_4 T (nI kk) (t_take T 1 x)).1)) (up2 j 145 A.length (j 134 10)) := q.w
          refine g_iload_n C dX8_readAct_177 rfl ?_
          refine g_bipush (v := 8) C dX8_readAct_178 (by decide) ?_
          refine g_icmp_lt (tgt := 196) C dX8_readAct_180 (by decide) (fun c180 => absurd c180 (fun z => hng (Or.inl z))) (fun c180 => ?_)
          refine g_iload_n C dX8_readAct_183 rfl ?_
          refine g_bipush (v := 10) C dX8_readAct_184 (by decide) ?_
          refine g_icmp_gt (tgt := 196) C dX8_readAct_186 (by decide) (fun c186 => absurd c186 (fun z => hng (Or.inr z))) (fun c186 => ?_)
          refine g_aload_n C dX8_readAct_189 rfl ?_
          refine g_callVf C hts V (i := 134) (gX8_readAct_X8_isGood) rfl hdX8_isGood (by decide) (Cf.to (c_X8_isGood hw hR) (congrArg (fun z => some (Value.int z)) (show _ = (1 : Int32) from if_pos hg4)) rfl) (by rw [hw]; decide) rfl (by decide) rfl rfl (Nat.le_of_ble_eq_true rfl) dX8_readAct_190 ?_
          refine g_if_ne (tgt := 197) C dX8_readAct_193 (by decide) (fun c193 => ?_) (fun c193 => absurd c193 (by decide))
          refine g_aload_n C dX8_readAct_197 rfl ?_
          refine g_geti C F8 (by rw [hw]; decide) rfl (by decide) 8 (by decide) rfl (hts (.fieldLink RX8 128 "FallBenchModel" "token" "I") (by decide +kernel)) rfl rfl dX8_readAct_198 ?_
          refine g_iconst (v := 2) C dX8_readAct_201 (by decide) ?_
          refine g_icmp_ne (tgt := 212) C dX8_readAct_202 (by decide) (fun c202 => absurd c202 (not_not_intro (hn4.2.1.trans (rk_1 hk1)))) (fun c202 => ?_)
          refine g_aload_n C dX8_readAct_205 rfl ?_
          refine g_callVf C hts V (i := 134) (gX8_readAct_X8_actHere) rfl hdX8_actHere (by decide) (Cf.to (c_X8_actHere hw hR) (congrArg (fun z => some (Value.int z)) (show _ = (-1 : Int32) by rw [if_pos (hn4.2.1.trans (rk_1 hk1)), e4, kwn_is (tW_ok hk1)]; exact hil.2)) rfl) (by rw [hw]; decide) rfl (by decide) rfl rfl (Nat.le_of_ble_eq_true rfl) dX8_readAct_206 ?_
          refine g_if_lt (tgt := 216) C dX8_readAct_209 (by decide) (fun c209 => ?_) (fun c209 => absurd c209 (not_not_intro (by decide)))
          refine g_aload_n C dX8_readAct_216 rfl ?_
          refine g_getr (j := 145) C F8 (by rw [hw]; decide) rfl (by decide) 19 (by decide) rfl (hts (.fieldLink RX8 46 "FallBenchModel" "goesTo" "[J") (by decide +kernel)) rfl (hR (19, 145) (by decide)) dX8_readAct_217 ?_
          refine g_iload_n C dX8_readAct_220 rfl ?_
          refine g_aload_n C dX8_readAct_221 rfl ?_
          refine g_getl C F8 (by rw [hw]; decide) rfl (by decide) 10 (by decide) rfl (hts (.fieldLink RX8 141 "FallBenchModel" "name" "J") (by decide +kernel)) rfl rfl dX8_readAct_222 ?_
          refine g_last C (by rw [hw]; decide) rfl (vp_in_nI (N := 80) hc (by decide)) dX8_readAct_225 ?_
          rw [nI_clamp (show A.length < 2 ^ 31 by omega)]
          refine g_aload_n C dX8_readAct_226 rfl ?_
          refine g_getr (j := 143) C F8 (by rw [hw]; decide) rfl (by decide) 17 (by decide) rfl (hts (.fieldLink RX8 39 "FallBenchModel" "goesAt" "[I") (by decide +kernel)) rfl (hR (17, 143) (by decide)) dX8_readAct_227 ?_
          refine g_iload_n C dX8_readAct_230 rfl ?_
          refine g_aload_n C dX8_readAct_231 rfl ?_
          refine g_geti (v := tP T (a_4 T (nI kk) (t_take T 1 x)).1) C F8 (by rw [hw]; decide) rfl (by decide) 6 (by decide) rfl (hts (.fieldLink RX8 121 "FallBenchModel" "at" "I") (by decide +kernel)) rfl hn4.1 dX8_readAct_232 ?_
          refine g_iast C (by rw [hw]; decide) rfl (vp_in_nI (N := 80) hc (by decide)) dX8_readAct_235 ?_
          rw [nI_clamp (show A.length < 2 ^ 31 by omega)]
          refine g_aload_n C dX8_readAct_236 rfl ?_
          refine g_callVf C hts V (i := 134) (gX8_readAct_X8_isGood) rfl hdX8_isGood (by decide) (Cf.to (c_X8_isGood hw hR) (congrArg (fun z => some (Value.int z)) (show _ = (1 : Int32) from if_pos (px_good q6.1 h4))) rfl) (by rw [hw]; decide) rfl (by decide) rfl rfl (Nat.le_of_ble_eq_true rfl) dX8_readAct_237 ?_
          refine g_if_eq (tgt := 247) C dX8_readAct_240 (by decide) (fun c240 => absurd c240 (by decide)) (fun c240 => ?_)
          refine g_aload_n C dX8_readAct_243 rfl ?_
          refine g_callVt C hts V (i := 134) (gX8_readAct_X8_next) rfl hdX8_next (by decide) (c_X8_next (p := tpos T ((a_4 T (nI kk) (t_take T 1 x)).1 + 1)) hw hR hX q6.1.1 ((q6.1.2.2.2.2 h4).2.2.1 (by rw [hk1]; decide)) (tpos_le T _)) (by rw [hw]; decide) rfl (by decide) rfl rfl (Nat.le_of_ble_eq_true rfl) dX8_readAct_244 (fun v M1 J1 R1 h => ?_)
          obtain ⟨v0, r0, hN⟩ := h
          subst v0
          have r0 := Eq.symm r0
          subst r0
          dsimp only at hN
          obtain ⟨hp7, hF7, hJ7⟩ := px_next q6.1 h4 (by rw [hk1]; decide) (by rw [hk1]; decide) hN
          have ew : t_want T (a_4 T (nI kk) (t_take T 1 x)) = ((a_4 T (nI kk) (t_take T 1 x)).1 + 1, 0, (a_4 T (nI kk) (t_take T 1 x)).2.2) := by
            unfold t_want
            rw [if_pos h4, if_pos hil]
          obtain ⟨f1, f2, f3⟩ := fin _ _ (by rw [ex, ew]; exact q6.nf hp7 hF7 hJ7 (fun _ => h4)) (fun _ _ => ⟨tW_ok hk1, by rw [hJ7 145 _ (by omega), up2_eq]; exact e4, by rw [hF7 143 _ (by omega), up2_eq]⟩)
          exact g_vret C Rr ⟨rfl, ⟨rfl, rfl, f1, f2, f3⟩⟩ dX8_readAct_247
        · have ew : t_want T (a_4 T (nI kk) (t_take T 1 x)) = t_bad T (a_4 T (nI kk) (t_take T 1 x)) := by
            unfold t_want
            rw [if_pos h4, if_neg hil]
          have hpb := px_bad q.1 h4
          have q5 : acM T M J A.length (nI kk) (t_bad T (a_4 T (nI kk) (t_take T 1 x))) (a_r T (nI kk) (t_take T 1 x)) (a_s T (nI kk) (a_x2 T (nI kk) (t_take T 1 x))) (a_n T (nI kk) (a_x3 T (nI kk) (a_x2 T (nI kk) (t_take T 1 x)))) (wM m) j := q.nf hpb (nf_w _ _ _) (nfJ.rf j) (fun _ => h4)
          have q6 : acM T M J A.length (nI kk) (t_bad T (a_4 T (nI kk) (t_take T 1 x))) (a_r T (nI kk) (t_take T 1 x)) (a_s T (nI kk) (a_x2 T (nI kk) (t_take T 1 x))) (a_n T (nI kk) (a_x3 T (nI kk) (a_x2 T (nI kk) (t_take T 1 x)))) (up2 (wM m) 143 A.length (tP T (a_4 T (nI kk) (t_take T 1 x)).1)) (up2 j 145 A.length (j 134 10)) := q5.w
          obtain ⟨f1, f2, f3⟩ := fin _ _ (by rw [ex, ew]; exact q6) (fun z => absurd z (by rw [ex, ew]; exact t_bad_ne T _))
          by_cases hk1 : tK T (a_4 T (nI kk) (t_take T 1 x)).1 = 1
          · have hnn : ¬ kwd (tW T (a_4 T (nI kk) (t_take T 1 x)).1) = -1 := fun z => hil ⟨hk1, z⟩
            have hpos : ¬ kwd (tW T (a_4 T (nI kk) (t_take T 1 x)).1) < 0 := by
              rcases kwd_cases (tW T (a_4 T (nI kk) (t_take T 1 x)).1) with z | ⟨k, z1, z2, z3⟩
              · exact absurd z.1 hnn
              · rw [z2]; exact nI_pos (by omega)
            refine g_iload_n C dX8_readAct_177 rfl ?_
            refine g_bipush (v := 8) C dX8_readAct_178 (by decide) ?_
            refine g_icmp_lt (tgt := 196) C dX8_readAct_180 (by decide) (fun c180 => absurd c180 (fun z => hng (Or.inl z))) (fun c180 => ?_)
            refine g_iload_n C dX8_readAct_183 rfl ?_
            refine g_bipush (v := 10) C dX8_readAct_184 (by decide) ?_
            refine g_icmp_gt (tgt := 196) C dX8_readAct_186 (by decide) (fun c186 => absurd c186 (fun z => hng (Or.inr z))) (fun c186 => ?_)
            refine g_aload_n C dX8_readAct_189 rfl ?_
            refine g_callVf C hts V (i := 134) (gX8_readAct_X8_isGood) rfl hdX8_isGood (by decide) (Cf.to (c_X8_isGood hw hR) (congrArg (fun z => some (Value.int z)) (show _ = (1 : Int32) from if_pos hg4)) rfl) (by rw [hw]; decide) rfl (by decide) rfl rfl (Nat.le_of_ble_eq_true rfl) dX8_readAct_190 ?_
            refine g_if_ne (tgt := 197) C dX8_readAct_193 (by decide) (fun c193 => ?_) (fun c193 => absurd c193 (by decide))
            refine g_aload_n C dX8_readAct_197 rfl ?_
            refine g_geti C F8 (by rw [hw]; decide) rfl (by decide) 8 (by decide) rfl (hts (.fieldLink RX8 128 "FallBenchModel" "token" "I") (by decide +kernel)) rfl rfl dX8_readAct_198 ?_
            refine g_iconst (v := 2) C dX8_readAct_201 (by decide) ?_
            refine g_icmp_ne (tgt := 212) C dX8_readAct_202 (by decide) (fun c202 => absurd c202 (not_not_intro (hn4.2.1.trans (rk_1 hk1)))) (fun c202 => ?_)
            refine g_aload_n C dX8_readAct_205 rfl ?_
            refine g_callVf C hts V (i := 134) (gX8_readAct_X8_actHere) rfl hdX8_actHere (by decide) (Cf.to (c_X8_actHere hw hR) (congrArg (fun z => some (Value.int z)) (show _ = kwd (tW T (a_4 T (nI kk) (t_take T 1 x)).1) by rw [if_pos (hn4.2.1.trans (rk_1 hk1)), hn4.2.2.2.2 hk1, kwn_is (tW_ok hk1)])) rfl) (by rw [hw]; decide) rfl (by decide) rfl rfl (Nat.le_of_ble_eq_true rfl) dX8_readAct_206 ?_
            refine g_if_lt (tgt := 216) C dX8_readAct_209 (by decide) (fun c209 => absurd c209 hpos) (fun c209 => ?_)
            refine g_aload_n C dX8_readAct_212 rfl ?_
            refine g_callVf C hts V (i := 134) (gX8_readAct_X8_wrong) rfl hdX8_wrong (by decide) (c_X8_wrong hw hR hg4) (by rw [hw]; decide) rfl (by decide) rfl rfl (Nat.le_of_ble_eq_true rfl) dX8_readAct_213 ?_
            refine g_aload_n C dX8_readAct_216 rfl ?_
            refine g_getr (j := 145) C F8 (by rw [hw]; decide) rfl (by decide) 19 (by decide) rfl (hts (.fieldLink RX8 46 "FallBenchModel" "goesTo" "[J") (by decide +kernel)) rfl (hR (19, 145) (by decide)) dX8_readAct_217 ?_
            refine g_iload_n C dX8_readAct_220 rfl ?_
            refine g_aload_n C dX8_readAct_221 rfl ?_
            refine g_getl C F8 (by rw [hw]; decide) rfl (by decide) 10 (by decide) rfl (hts (.fieldLink RX8 141 "FallBenchModel" "name" "J") (by decide +kernel)) rfl rfl dX8_readAct_222 ?_
            refine g_last C (by rw [hw]; decide) rfl (vp_in_nI (N := 80) hc (by decide)) dX8_readAct_225 ?_
            rw [nI_clamp (show A.length < 2 ^ 31 by omega)]
            refine g_aload_n C dX8_readAct_226 rfl ?_
            refine g_getr (j := 143) C F8 (by rw [hw]; decide) rfl (by decide) 17 (by decide) rfl (hts (.fieldLink RX8 39 "FallBenchModel" "goesAt" "[I") (by decide +kernel)) rfl (hR (17, 143) (by decide)) dX8_readAct_227 ?_
            refine g_iload_n C dX8_readAct_230 rfl ?_
            refine g_aload_n C dX8_readAct_231 rfl ?_
            refine g_geti (v := tP T (a_4 T (nI kk) (t_take T 1 x)).1) C F8 (by rw [hw]; decide) rfl (by decide) 6 (by decide) rfl (hts (.fieldLink RX8 121 "FallBenchModel" "at" "I") (by decide +kernel)) rfl (by show up2 (up2 m 134 4 _) 134 5 _ 134 6 = _; rw [up2_n2 _ _ (by decide), up2_n2 _ _ (by decide)]; exact hn4.1) dX8_readAct_232 ?_
            refine g_iast C (by rw [hw]; decide) rfl (vp_in_nI (N := 80) hc (by decide)) dX8_readAct_235 ?_
            rw [nI_clamp (show A.length < 2 ^ 31 by omega)]
            refine g_aload_n C dX8_readAct_236 rfl ?_
            refine g_callVf C hts V (i := 134) (gX8_readAct_X8_isGood) rfl hdX8_isGood (by decide) (Cf.to (c_X8_isGood hw hR) (congrArg (fun z => some (Value.int z)) (show _ = (0 : Int32) from if_neg (px_ng q6.1 (t_bad_ne T _)))) rfl) (by rw [hw]; decide) rfl (by decide) rfl rfl (Nat.le_of_ble_eq_true rfl) dX8_readAct_237 ?_
            refine g_if_eq (tgt := 247) C dX8_readAct_240 (by decide) (fun c240 => ?_) (fun c240 => absurd c240 (not_not_intro rfl))
            exact g_vret C Rr ⟨rfl, ⟨rfl, rfl, f1, f2, f3⟩⟩ dX8_readAct_247
          · refine g_iload_n C dX8_readAct_177 rfl ?_
            refine g_bipush (v := 8) C dX8_readAct_178 (by decide) ?_
            refine g_icmp_lt (tgt := 196) C dX8_readAct_180 (by decide) (fun c180 => absurd c180 (fun z => hng (Or.inl z))) (fun c180 => ?_)
            refine g_iload_n C dX8_readAct_183 rfl ?_
            refine g_bipush (v := 10) C dX8_readAct_184 (by decide) ?_
            refine g_icmp_gt (tgt := 196) C dX8_readAct_186 (by decide) (fun c186 => absurd c186 (fun z => hng (Or.inr z))) (fun c186 => ?_)
            refine g_aload_n C dX8_readAct_189 rfl ?_
            refine g_callVf C hts V (i := 134) (gX8_readAct_X8_isGood) rfl hdX8_isGood (by decide) (Cf.to (c_X8_isGood hw hR) (congrArg (fun z => some (Value.int z)) (show _ = (1 : Int32) from if_pos hg4)) rfl) (by rw [hw]; decide) rfl (by decide) rfl rfl (Nat.le_of_ble_eq_true rfl) dX8_readAct_190 ?_
            refine g_if_ne (tgt := 197) C dX8_readAct_193 (by decide) (fun c193 => ?_) (fun c193 => absurd c193 (by decide))
            refine g_aload_n C dX8_readAct_197 rfl ?_
            refine g_geti C F8 (by rw [hw]; decide) rfl (by decide) 8 (by decide) rfl (hts (.fieldLink RX8 128 "FallBenchModel" "token" "I") (by decide +kernel)) rfl rfl dX8_readAct_198 ?_
            refine g_iconst (v := 2) C dX8_readAct_201 (by decide) ?_
            refine g_icmp_ne (tgt := 212) C dX8_readAct_202 (by decide) (fun c202 => ?_) (fun c202 => absurd c202 (fun z => rk_inj (c := 1) (by decide) hk1 (hn4.2.1.symm.trans z)))
            refine g_aload_n C dX8_readAct_212 rfl ?_
            refine g_callVf C hts V (i := 134) (gX8_readAct_X8_wrong) rfl hdX8_wrong (by decide) (c_X8_wrong hw hR hg4) (by rw [hw]; decide) rfl (by decide) rfl rfl (Nat.le_of_ble_eq_true rfl) dX8_readAct_213 ?_
            refine g_aload_n C dX8_readAct_216 rfl ?_
            refine g_getr (j := 145) C F8 (by rw [hw]; decide) rfl (by decide) 19 (by decide) rfl (hts (.fieldLink RX8 46 "FallBenchModel" "goesTo" "[J") (by decide +kernel)) rfl (hR (19, 145) (by decide)) dX8_readAct_217 ?_
            refine g_iload_n C dX8_readAct_220 rfl ?_
            refine g_aload_n C dX8_readAct_221 rfl ?_
            refine g_getl C F8 (by rw [hw]; decide) rfl (by decide) 10 (by decide) rfl (hts (.fieldLink RX8 141 "FallBenchModel" "name" "J") (by decide +kernel)) rfl rfl dX8_readAct_222 ?_
            refine g_last C (by rw [hw]; decide) rfl (vp_in_nI (N := 80) hc (by decide)) dX8_readAct_225 ?_
            rw [nI_clamp (show A.length < 2 ^ 31 by omega)]
            refine g_aload_n C dX8_readAct_226 rfl ?_
            refine g_getr (j := 143) C F8 (by rw [hw]; decide) rfl (by decide) 17 (by decide) rfl (hts (.fieldLink RX8 39 "FallBenchModel" "goesAt" "[I") (by decide +kernel)) rfl (hR (17, 143) (by decide)) dX8_readAct_227 ?_
            refine g_iload_n C dX8_readAct_230 rfl ?_
            refine g_aload_n C dX8_readAct_231 rfl ?_
            refine g_geti (v := tP T (a_4 T (nI kk) (t_take T 1 x)).1) C F8 (by rw [hw]; decide) rfl (by decide) 6 (by decide) rfl (hts (.fieldLink RX8 121 "FallBenchModel" "at" "I") (by decide +kernel)) rfl (by show up2 (up2 m 134 4 _) 134 5 _ 134 6 = _; rw [up2_n2 _ _ (by decide), up2_n2 _ _ (by decide)]; exact hn4.1) dX8_readAct_232 ?_
            refine g_iast C (by rw [hw]; decide) rfl (vp_in_nI (N := 80) hc (by decide)) dX8_readAct_235 ?_
            rw [nI_clamp (show A.length < 2 ^ 31 by omega)]
            refine g_aload_n C dX8_readAct_236 rfl ?_
            refine g_callVf C hts V (i := 134) (gX8_readAct_X8_isGood) rfl hdX8_isGood (by decide) (Cf.to (c_X8_isGood hw hR) (congrArg (fun z => some (Value.int z)) (show _ = (0 : Int32) from if_neg (px_ng q6.1 (t_bad_ne T _)))) rfl) (by rw [hw]; decide) rfl (by decide) rfl rfl (Nat.le_of_ble_eq_true rfl) dX8_readAct_237 ?_
            refine g_if_eq (tgt := 247) C dX8_readAct_240 (by decide) (fun c240 => ?_) (fun c240 => absurd c240 (not_not_intro rfl))
            exact g_vret C Rr ⟨rfl, ⟨rfl, rfl, f1, f2, f3⟩⟩ dX8_readAct_247
      · obtain ⟨f1, f2, f3⟩ := fin m j (by rw [ex, t_want_ne h4]; exact q) (fun z => absurd z (by rw [ex, t_want_ne h4]; exact h4))
        refine g_iload_n C dX8_readAct_177 rfl ?_
        refine g_bipush (v := 8) C dX8_readAct_178 (by decide) ?_
        refine g_icmp_lt (tgt := 196) C dX8_readAct_180 (by decide) (fun c180 => absurd c180 (fun z => hng (Or.inl z))) (fun c180 => ?_)
        refine g_iload_n C dX8_readAct_183 rfl ?_
        refine g_bipush (v := 10) C dX8_readAct_184 (by decide) ?_
        refine g_icmp_gt (tgt := 196) C dX8_readAct_186 (by decide) (fun c186 => absurd c186 (fun z => hng (Or.inr z))) (fun c186 => ?_)
        refine g_aload_n C dX8_readAct_189 rfl ?_
        refine g_callVf C hts V (i := 134) (gX8_readAct_X8_isGood) rfl hdX8_isGood (by decide) (Cf.to (c_X8_isGood hw hR) (congrArg (fun z => some (Value.int z)) (show _ = (0 : Int32) from if_neg (px_ng q.1 h4))) rfl) (by rw [hw]; decide) rfl (by decide) rfl rfl (Nat.le_of_ble_eq_true rfl) dX8_readAct_190 ?_
        refine g_if_ne (tgt := 197) C dX8_readAct_193 (by decide) (fun c193 => absurd c193 (not_not_intro rfl)) (fun c193 => ?_)
        exact g_vret C Rr ⟨rfl, ⟨rfl, rfl, f1, f2, f3⟩⟩ dX8_readAct_196
  have a132 : ∀ m j, acM T M J A.length (nI kk) (a_x3 T (nI kk) (a_x2 T (nI kk) (t_take T 1 x))) (a_r T (nI kk) (t_take T 1 x)) (a_s T (nI kk) (a_x2 T (nI kk) (t_take T 1 x))) 0 m j → Gj X 0 0 w m j R 132 [some (.ref (w.2.1 134)), some (.int (nI A.length)), some (.int (nI (240 + A.length))), some (.int (nI kk))] [] := by
    intro m j q
    by_cases hk1 : (nI kk) = 1
    · have ex : (a_4 T (nI kk) (t_take T 1 x)) = t_take T 3 (a_x3 T (nI kk) (a_x2 T (nI kk) (t_take T 1 x))) := if_pos hk1
      have ev : (a_n T (nI kk) (a_x3 T (nI kk) (a_x2 T (nI kk) (t_take T 1 x)))) = t_val T 3 (a_x3 T (nI kk) (a_x2 T (nI kk) (t_take T 1 x))) := if_pos hk1
      by_cases h3 : (a_x3 T (nI kk) (a_x2 T (nI kk) (t_take T 1 x))).2.1 = 0
      · have hn3 := q.1.2.2.2.2 h3
        by_cases ht : tK T (a_x3 T (nI kk) (a_x2 T (nI kk) (t_take T 1 x))).1 = 3
        · have q1 : acM T M J A.length (nI kk) (a_x3 T (nI kk) (a_x2 T (nI kk) (t_take T 1 x))) (a_r T (nI kk) (t_take T 1 x)) (a_s T (nI kk) (a_x2 T (nI kk) (t_take T 1 x))) (a_n T (nI kk) (a_x3 T (nI kk) (a_x2 T (nI kk) (t_take T 1 x)))) (up2 m 140 (240 + A.length) (tV T (a_x3 T (nI kk) (a_x2 T (nI kk) (t_take T 1 x))).1)) j := q.s3 (fun _ => by rw [ev, t_val, if_pos h3, if_pos ht])
          refine g_iload_n C dX8_readAct_132 rfl ?_
          refine g_iconst (v := 1) C dX8_readAct_133 (by decide) ?_
          refine g_icmp_ne (tgt := 177) C dX8_readAct_134 (by decide) (fun c134 => absurd c134 (not_not_intro hk1)) (fun c134 => ?_)
          refine g_aload_n C dX8_readAct_137 rfl ?_
          refine g_callVf C hts V (i := 134) (gX8_readAct_X8_isGood) rfl hdX8_isGood (by decide) (Cf.to (c_X8_isGood hw hR) (congrArg (fun z => some (Value.int z)) (show _ = (1 : Int32) from if_pos (px_good q.1 h3))) rfl) (by rw [hw]; decide) rfl (by decide) rfl rfl (Nat.le_of_ble_eq_true rfl) dX8_readAct_138 ?_
          refine g_if_eq (tgt := 156) C dX8_readAct_141 (by decide) (fun c141 => absurd c141 (by decide)) (fun c141 => ?_)
          refine g_aload_n C dX8_readAct_144 rfl ?_
          refine g_geti C F8 (by rw [hw]; decide) rfl (by decide) 8 (by decide) rfl (hts (.fieldLink RX8 128 "FallBenchModel" "token" "I") (by decide +kernel)) rfl rfl dX8_readAct_145 ?_
          refine g_iconst (v := 4) C dX8_readAct_148 (by decide) ?_
          refine g_icmp_eq (tgt := 156) C dX8_readAct_149 (by decide) (fun c149 => ?_) (fun c149 => absurd c149 (not_not_intro (hn3.2.1.trans (rk_of (c := 3) (by decide) ht))))
          refine g_aload_n C dX8_readAct_156 rfl ?_
          refine g_getr (j := 140) C F8 (by rw [hw]; decide) rfl (by decide) 14 (by decide) rfl (hts (.fieldLink RX8 30 "FallBenchModel" "aN" "[I") (by decide +kernel)) rfl (hR (14, 140) (by decide)) dX8_readAct_157 ?_
          refine g_iload_n C dX8_readAct_160 rfl ?_
          refine g_aload_n C dX8_readAct_161 rfl ?_
          refine g_geti (v := tV T (a_x3 T (nI kk) (a_x2 T (nI kk) (t_take T 1 x))).1) C F8 (by rw [hw]; decide) rfl (by decide) 9 (by decide) rfl (hts (.fieldLink RX8 138 "FallBenchModel" "number" "I") (by decide +kernel)) rfl (hn3.2.2.2.1 (Or.inr ht)) dX8_readAct_162 ?_
          refine g_iast C (by rw [hw]; decide) rfl (hb 140 rfl) dX8_readAct_165 ?_
          rw [nI_clamp (show 240 + A.length < 2 ^ 31 by omega)]
          refine g_aload_n C dX8_readAct_166 rfl ?_
          refine g_callVf C hts V (i := 134) (gX8_readAct_X8_isGood) rfl hdX8_isGood (by decide) (Cf.to (c_X8_isGood hw hR) (congrArg (fun z => some (Value.int z)) (show _ = (1 : Int32) from if_pos (px_good q1.1 h3))) rfl) (by rw [hw]; decide) rfl (by decide) rfl rfl (Nat.le_of_ble_eq_true rfl) dX8_readAct_167 ?_
          refine g_if_eq (tgt := 177) C dX8_readAct_170 (by decide) (fun c170 => absurd c170 (by decide)) (fun c170 => ?_)
          refine g_aload_n C dX8_readAct_173 rfl ?_
          refine g_callVt C hts V (i := 134) (gX8_readAct_X8_next) rfl hdX8_next (by decide) (c_X8_next (p := tpos T ((a_x3 T (nI kk) (a_x2 T (nI kk) (t_take T 1 x))).1 + 1)) hw hR hX q1.1.1 ((q1.1.2.2.2.2 h3).2.2.1 (by rw [ht]; decide)) (tpos_le T _)) (by rw [hw]; decide) rfl (by decide) rfl rfl (Nat.le_of_ble_eq_true rfl) dX8_readAct_174 (fun v M1 J1 R1 h => ?_)
          obtain ⟨v0, r0, hN⟩ := h
          subst v0
          have r0 := Eq.symm r0
          subst r0
          dsimp only at hN
          obtain ⟨hp7, hF7, hJ7⟩ := px_next q1.1 h3 (by rw [ht]; decide) (by rw [ht]; decide) hN
          exact a177 _ _ (by rw [ex, t_take_ok h3 ht]; exact q1.nf hp7 hF7 hJ7 (fun _ => h3))
        · have hpb := px_bad q.1 h3
          have q5 : acM T M J A.length (nI kk) (t_bad T (a_x3 T (nI kk) (a_x2 T (nI kk) (t_take T 1 x)))) (a_r T (nI kk) (t_take T 1 x)) (a_s T (nI kk) (a_x2 T (nI kk) (t_take T 1 x))) 0 (wM m) j := q.nf hpb (nf_w _ _ _) (nfJ.rf j) (fun _ => h3)
          have q1 : ∀ v, acM T M J A.length (nI kk) (t_bad T (a_x3 T (nI kk) (a_x2 T (nI kk) (t_take T 1 x)))) (a_r T (nI kk) (t_take T 1 x)) (a_s T (nI kk) (a_x2 T (nI kk) (t_take T 1 x))) (a_n T (nI kk) (a_x3 T (nI kk) (a_x2 T (nI kk) (t_take T 1 x)))) (up2 (wM m) 140 (240 + A.length) v) j := fun v => q5.s3 (fun z => absurd z (t_bad_ne T _))
          refine g_iload_n C dX8_readAct_132 rfl ?_
          refine g_iconst (v := 1) C dX8_readAct_133 (by decide) ?_
          refine g_icmp_ne (tgt := 177) C dX8_readAct_134 (by decide) (fun c134 => absurd c134 (not_not_intro hk1)) (fun c134 => ?_)
          refine g_aload_n C dX8_readAct_137 rfl ?_
          refine g_callVf C hts V (i := 134) (gX8_readAct_X8_isGood) rfl hdX8_isGood (by decide) (Cf.to (c_X8_isGood hw hR) (congrArg (fun z => some (Value.int z)) (show _ = (1 : Int32) from if_pos (px_good q.1 h3))) rfl) (by rw [hw]; decide) rfl (by decide) rfl rfl (Nat.le_of_ble_eq_true rfl) dX8_readAct_138 ?_
          refine g_if_eq (tgt := 156) C dX8_readAct_141 (by decide) (fun c141 => absurd c141 (by decide)) (fun c141 => ?_)
          refine g_aload_n C dX8_readAct_144 rfl ?_
          refine g_geti C F8 (by rw [hw]; decide) rfl (by decide) 8 (by decide) rfl (hts (.fieldLink RX8 128 "FallBenchModel" "token" "I") (by decide +kernel)) rfl rfl dX8_readAct_145 ?_
          refine g_iconst (v := 4) C dX8_readAct_148 (by decide) ?_
          refine g_icmp_eq (tgt := 156) C dX8_readAct_149 (by decide) (fun c149 => absurd c149 (by rw [hn3.2.1]; exact rk_inj (c := 3) (by decide) ht)) (fun c149 => ?_)
          refine g_aload_n C dX8_readAct_152 rfl ?_
          refine g_callVf C hts V (i := 134) (gX8_readAct_X8_wrong) rfl hdX8_wrong (by decide) (c_X8_wrong hw hR (px_good q.1 h3)) (by rw [hw]; decide) rfl (by decide) rfl rfl (Nat.le_of_ble_eq_true rfl) dX8_readAct_153 ?_
          refine g_aload_n C dX8_readAct_156 rfl ?_
          refine g_getr (j := 140) C F8 (by rw [hw]; decide) rfl (by decide) 14 (by decide) rfl (hts (.fieldLink RX8 30 "FallBenchModel" "aN" "[I") (by decide +kernel)) rfl (hR (14, 140) (by decide)) dX8_readAct_157 ?_
          refine g_iload_n C dX8_readAct_160 rfl ?_
          refine g_aload_n C dX8_readAct_161 rfl ?_
          refine g_geti C F8 (by rw [hw]; decide) rfl (by decide) 9 (by decide) rfl (hts (.fieldLink RX8 138 "FallBenchModel" "number" "I") (by decide +kernel)) rfl rfl dX8_readAct_162 ?_
          refine g_iast C (by rw [hw]; decide) rfl (hb 140 rfl) dX8_readAct_165 ?_
          rw [nI_clamp (show 240 + A.length < 2 ^ 31 by omega)]
          refine g_aload_n C dX8_readAct_166 rfl ?_
          refine g_callVf C hts V (i := 134) (gX8_readAct_X8_isGood) rfl hdX8_isGood (by decide) (Cf.to (c_X8_isGood hw hR) (congrArg (fun z => some (Value.int z)) (show _ = (0 : Int32) from if_neg (px_ng (q1 _).1 (t_bad_ne T _)))) rfl) (by rw [hw]; decide) rfl (by decide) rfl rfl (Nat.le_of_ble_eq_true rfl) dX8_readAct_167 ?_
          refine g_if_eq (tgt := 177) C dX8_readAct_170 (by decide) (fun c170 => ?_) (fun c170 => absurd c170 (not_not_intro rfl))
          exact a177 _ _ (by rw [ex, t_take_bad h3 ht]; exact q1 _)
      · have q1 : ∀ v, acM T M J A.length (nI kk) (a_x3 T (nI kk) (a_x2 T (nI kk) (t_take T 1 x))) (a_r T (nI kk) (t_take T 1 x)) (a_s T (nI kk) (a_x2 T (nI kk) (t_take T 1 x))) (a_n T (nI kk) (a_x3 T (nI kk) (a_x2 T (nI kk) (t_take T 1 x)))) (up2 m 140 (240 + A.length) v) j := fun v => q.s3 (fun z => absurd z h3)
        refine g_iload_n C dX8_readAct_132 rfl ?_
        refine g_iconst (v := 1) C dX8_readAct_133 (by decide) ?_
        refine g_icmp_ne (tgt := 177) C dX8_readAct_134 (by decide) (fun c134 => absurd c134 (not_not_intro hk1)) (fun c134 => ?_)
        refine g_aload_n C dX8_readAct_137 rfl ?_
        refine g_callVf C hts V (i := 134) (gX8_readAct_X8_isGood) rfl hdX8_isGood (by decide) (Cf.to (c_X8_isGood hw hR) (congrArg (fun z => some (Value.int z)) (show _ = (0 : Int32) from if_neg (px_ng q.1 h3))) rfl) (by rw [hw]; decide) rfl (by decide) rfl rfl (Nat.le_of_ble_eq_true rfl) dX8_readAct_138 ?_
        refine g_if_eq (tgt := 156) C dX8_readAct_141 (by decide) (fun c141 => ?_) (fun c141 => absurd c141 (not_not_intro rfl))
        refine g_aload_n C dX8_readAct_156 rfl ?_
        refine g_getr (j := 140) C F8 (by rw [hw]; decide) rfl (by decide) 14 (by decide) rfl (hts (.fieldLink RX8 30 "FallBenchModel" "aN" "[I") (by decide +kernel)) rfl (hR (14, 140) (by decide)) dX8_readAct_157 ?_
        refine g_iload_n C dX8_readAct_160 rfl ?_
        refine g_aload_n C dX8_readAct_161 rfl ?_
        refine g_geti C F8 (by rw [hw]; decide) rfl (by decide) 9 (by decide) rfl (hts (.fieldLink RX8 138 "FallBenchModel" "number" "I") (by decide +kernel)) rfl rfl dX8_readAct_162 ?_
        refine g_iast C (by rw [hw]; decide) rfl (hb 140 rfl) dX8_readAct_165 ?_
        rw [nI_clamp (show 240 + A.length < 2 ^ 31 by omega)]
        refine g_aload_n C dX8_readAct_166 rfl ?_
        refine g_callVf C hts V (i := 134) (gX8_readAct_X8_isGood) rfl hdX8_isGood (by decide) (Cf.to (c_X8_isGood hw hR) (congrArg (fun z => some (Value.int z)) (show _ = (0 : Int32) from if_neg (px_ng (q1 _).1 h3))) rfl) (by rw [hw]; decide) rfl (by decide) rfl rfl (Nat.le_of_ble_eq_true rfl) dX8_readAct_167 ?_
        refine g_if_eq (tgt := 177) C dX8_readAct_170 (by decide) (fun c170 => ?_) (fun c170 => absurd c170 (not_not_intro rfl))
        exact a177 _ _ (by rw [ex, t_take_ne h3]; exact q1 _)
    · have ex : (a_4 T (nI kk) (t_take T 1 x)) = (a_x3 T (nI kk) (a_x2 T (nI kk) (t_take T 1 x))) := if_neg hk1
      have ev : (a_n T (nI kk) (a_x3 T (nI kk) (a_x2 T (nI kk) (t_take T 1 x)))) = 0 := if_neg hk1
      refine g_iload_n C dX8_readAct_132 rfl ?_
      refine g_iconst (v := 1) C dX8_readAct_133 (by decide) ?_
      refine g_icmp_ne (tgt := 177) C dX8_readAct_134 (by decide) (fun c134 => ?_) (fun c134 => absurd c134 hk1)
      exact a177 _ _ (by rw [ex, ev]; exact q)
  have a111 : ∀ m j, acM T M J A.length (nI kk) (a_x2 T (nI kk) (t_take T 1 x)) (a_r T (nI kk) (t_take T 1 x)) (-1) 0 m j → Gj X 0 0 w m j R 111 [some (.ref (w.2.1 134)), some (.int (nI A.length)), some (.int (nI (240 + A.length))), some (.int (nI kk))] [] := by
    intro m j q
    refine g_iload_n C dX8_readAct_111 rfl ?_
    refine g_iconst (v := 2) C dX8_readAct_112 (by decide) ?_
    refine g_icmp_lt (tgt := 132) C dX8_readAct_113 (by decide) (fun c113 => ?_) (fun c113 => ?_)
    · have hr2 : rg (nI kk) < 2 := (rgB kk hk14).mpr (Or.inl c113)
      have ex : (a_x3 T (nI kk) (a_x2 T (nI kk) (t_take T 1 x))) = (a_x2 T (nI kk) (t_take T 1 x)) := if_pos hr2
      have ev : (a_s T (nI kk) (a_x2 T (nI kk) (t_take T 1 x))) = (-1) := if_pos hr2
      exact a132 _ _ (by rw [ex, ev]; exact q)
    · refine g_iload_n C dX8_readAct_116 rfl ?_
      refine g_bipush (v := 10) C dX8_readAct_117 (by decide) ?_
      refine g_icmp_ge (tgt := 132) C dX8_readAct_119 (by decide) (fun c119 => ?_) (fun c119 => ?_)
      · have hr2 : rg (nI kk) < 2 := (rgB kk hk14).mpr (Or.inr c119)
        have ex : (a_x3 T (nI kk) (a_x2 T (nI kk) (t_take T 1 x))) = (a_x2 T (nI kk) (t_take T 1 x)) := if_pos hr2
        have ev : (a_s T (nI kk) (a_x2 T (nI kk) (t_take T 1 x))) = (-1) := if_pos hr2
        exact a132 _ _ (by rw [ex, ev]; exact q)
      · refine g_aload_n C dX8_readAct_122 rfl ?_
        refine g_getr (j := 139) C F8 (by rw [hw]; decide) rfl (by decide) 13 (by decide) rfl (hts (.fieldLink RX8 27 "FallBenchModel" "aTwo" "[I") (by decide +kernel)) rfl (hR (13, 139) (by decide)) dX8_readAct_123 ?_
        refine g_iload_n C dX8_readAct_126 rfl ?_
        refine g_aload_n C dX8_readAct_127 rfl ?_
        refine g_callVt C hts V (i := 134) (gX8_readAct_X8_register) rfl hdX8_register (by decide) (c_X8_register hw hR hX q.1) (by rw [hw]; decide) rfl (by decide) rfl rfl (Nat.le_of_ble_eq_true rfl) dX8_readAct_128 (fun v M1 J1 R1 h => ?_)
        obtain ⟨⟨rr, v0, hrr⟩, r0, hp7, hF7, hJ7⟩ := h
        subst v0
        have r0 := Eq.symm r0
        subst r0
        dsimp only at hp7 hF7 hJ7
        refine g_iast C (by rw [hw]; decide) rfl (hb 139 rfl) dX8_readAct_131 ?_
        have hnr : ¬ rg (nI kk) < 2 := fun z => ((rgB kk hk14).mp z).elim c113 c119
        have ex : (a_x3 T (nI kk) (a_x2 T (nI kk) (t_take T 1 x))) = t_take T 2 (a_x2 T (nI kk) (t_take T 1 x)) := if_neg hnr
        have ev : (a_s T (nI kk) (a_x2 T (nI kk) (t_take T 1 x))) = t_val T 2 (a_x2 T (nI kk) (t_take T 1 x)) := if_neg hnr
        rw [nI_clamp (show 240 + A.length < 2 ^ 31 by omega)]
        exact a132 _ _ (by rw [ex, ev]; exact (q.nf hp7 hF7 hJ7 t_take_0).s2 hrr)
  have a83 : ∀ m j, acM T M J A.length (nI kk) (t_take T 1 x) (-1) (-1) 0 m j → Gj X 0 0 w m j R 83 [some (.ref (w.2.1 134)), some (.int (nI A.length)), some (.int (nI (240 + A.length))), some (.int (nI kk))] [] := by
    intro m j q
    refine g_iload_n C dX8_readAct_83 rfl ?_
    refine g_bipush (v := 10) C dX8_readAct_84 (by decide) ?_
    refine g_icmp_lt (tgt := 101) C dX8_readAct_86 (by decide) (fun c86 => ?_) (fun c86 => ?_)
    · refine g_aload_n C dX8_readAct_101 rfl ?_
      refine g_getr (j := 138) C F8 (by rw [hw]; decide) rfl (by decide) 12 (by decide) rfl (hts (.fieldLink RX8 24 "FallBenchModel" "aOne" "[I") (by decide +kernel)) rfl (hR (12, 138) (by decide)) dX8_readAct_102 ?_
      refine g_iload_n C dX8_readAct_105 rfl ?_
      refine g_aload_n C dX8_readAct_106 rfl ?_
      refine g_callVt C hts V (i := 134) (gX8_readAct_X8_register) rfl hdX8_register (by decide) (c_X8_register hw hR hX q.1) (by rw [hw]; decide) rfl (by decide) rfl rfl (Nat.le_of_ble_eq_true rfl) dX8_readAct_107 (fun v M1 J1 R1 h => ?_)
      obtain ⟨⟨rr, v0, hrr⟩, r0, hp7, hF7, hJ7⟩ := h
      subst v0
      have r0 := Eq.symm r0
      subst r0
      dsimp only at hp7 hF7 hJ7
      refine g_iast C (by rw [hw]; decide) rfl (hb 138 rfl) dX8_readAct_110 ?_
      have hnr : ¬ rg (nI kk) < 1 := fun z => ((rgA kk hk14).mp z).1 c86
      have ex : (a_x2 T (nI kk) (t_take T 1 x)) = t_take T 2 (t_take T 1 x) := if_neg hnr
      have ev : (a_r T (nI kk) (t_take T 1 x)) = t_val T 2 (t_take T 1 x) := if_neg hnr
      rw [nI_clamp (show 240 + A.length < 2 ^ 31 by omega)]
      exact a111 _ _ (by rw [ex, ev]; exact (q.nf hp7 hF7 hJ7 t_take_0).s1 hrr)
    · refine g_iload_n C dX8_readAct_89 rfl ?_
      refine g_bipush (v := 11) C dX8_readAct_90 (by decide) ?_
      refine g_icmp_eq (tgt := 101) C dX8_readAct_92 (by decide) (fun c92 => ?_) (fun c92 => ?_)
      · refine g_aload_n C dX8_readAct_101 rfl ?_
        refine g_getr (j := 138) C F8 (by rw [hw]; decide) rfl (by decide) 12 (by decide) rfl (hts (.fieldLink RX8 24 "FallBenchModel" "aOne" "[I") (by decide +kernel)) rfl (hR (12, 138) (by decide)) dX8_readAct_102 ?_
        refine g_iload_n C dX8_readAct_105 rfl ?_
        refine g_aload_n C dX8_readAct_106 rfl ?_
        refine g_callVt C hts V (i := 134) (gX8_readAct_X8_register) rfl hdX8_register (by decide) (c_X8_register hw hR hX q.1) (by rw [hw]; decide) rfl (by decide) rfl rfl (Nat.le_of_ble_eq_true rfl) dX8_readAct_107 (fun v M1 J1 R1 h => ?_)
        obtain ⟨⟨rr, v0, hrr⟩, r0, hp7, hF7, hJ7⟩ := h
        subst v0
        have r0 := Eq.symm r0
        subst r0
        dsimp only at hp7 hF7 hJ7
        refine g_iast C (by rw [hw]; decide) rfl (hb 138 rfl) dX8_readAct_110 ?_
        have hnr : ¬ rg (nI kk) < 1 := fun z => ((rgA kk hk14).mp z).2.1 c92
        have ex : (a_x2 T (nI kk) (t_take T 1 x)) = t_take T 2 (t_take T 1 x) := if_neg hnr
        have ev : (a_r T (nI kk) (t_take T 1 x)) = t_val T 2 (t_take T 1 x) := if_neg hnr
        rw [nI_clamp (show 240 + A.length < 2 ^ 31 by omega)]
        exact a111 _ _ (by rw [ex, ev]; exact (q.nf hp7 hF7 hJ7 t_take_0).s1 hrr)
      · refine g_iload_n C dX8_readAct_95 rfl ?_
        refine g_bipush (v := 12) C dX8_readAct_96 (by decide) ?_
        refine g_icmp_ne (tgt := 111) C dX8_readAct_98 (by decide) (fun c98 => ?_) (fun c98 => ?_)
        · have hr2 : rg (nI kk) < 1 := (rgA kk hk14).mpr ⟨c86, c92, c98⟩
          have ex : (a_x2 T (nI kk) (t_take T 1 x)) = (t_take T 1 x) := if_pos hr2
          have ev : (a_r T (nI kk) (t_take T 1 x)) = (-1) := if_pos hr2
          exact a111 _ _ (by rw [ex, ev]; exact q)
        · refine g_aload_n C dX8_readAct_101 rfl ?_
          refine g_getr (j := 138) C F8 (by rw [hw]; decide) rfl (by decide) 12 (by decide) rfl (hts (.fieldLink RX8 24 "FallBenchModel" "aOne" "[I") (by decide +kernel)) rfl (hR (12, 138) (by decide)) dX8_readAct_102 ?_
          refine g_iload_n C dX8_readAct_105 rfl ?_
          refine g_aload_n C dX8_readAct_106 rfl ?_
          refine g_callVt C hts V (i := 134) (gX8_readAct_X8_register) rfl hdX8_register (by decide) (c_X8_register hw hR hX q.1) (by rw [hw]; decide) rfl (by decide) rfl rfl (Nat.le_of_ble_eq_true rfl) dX8_readAct_107 (fun v M1 J1 R1 h => ?_)
          obtain ⟨⟨rr, v0, hrr⟩, r0, hp7, hF7, hJ7⟩ := h
          subst v0
          have r0 := Eq.symm r0
          subst r0
          dsimp only at hp7 hF7 hJ7
          refine g_iast C (by rw [hw]; decide) rfl (hb 138 rfl) dX8_readAct_110 ?_
          have hnr : ¬ rg (nI kk) < 1 := fun z => ((rgA kk hk14).mp z).2.2 c98
          have ex : (a_x2 T (nI kk) (t_take T 1 x)) = t_take T 2 (t_take T 1 x) := if_neg hnr
          have ev : (a_r T (nI kk) (t_take T 1 x)) = t_val T 2 (t_take T 1 x) := if_neg hnr
          rw [nI_clamp (show 240 + A.length < 2 ^ 31 by omega)]
          exact a111 _ _ (by rw [ex, ev]; exact (q.nf hp7 hF7 hJ7 t_take_0).s1 hrr)
  have q4 : acM T M J A.length (nI kk) x (-1) (-1) 0 (up2 (up2 (up2 (up2 (up2 M 137 (240 + A.length) (nI kk)) 138 (240 + A.length) (-1)) 139 (240 + A.length) (-1)) 140 (240 + A.length) 0) 141 3 (nI A.length + 1)) J := by
    refine ⟨hpx.o (fun y _ _ => by rw [up2_n1 _ _ (by decide), up2_n1 _ _ (by decide), up2_n1 _ _ (by decide), up2_n1 _ _ (by decide), up2_n1 _ _ (by decide)]) (fun y => by rw [up2_n1 _ _ (by decide), up2_n1 _ _ (by decide), up2_n1 _ _ (by decide), up2_n1 _ _ (by decide), up2_n1 _ _ (by decide)]) rfl, by rw [up2_n1 _ _ (by decide), up2_n1 _ _ (by decide), up2_n1 _ _ (by decide), up2_n1 _ _ (by decide), up2_eq], fun _ => ⟨by rw [up2_n1 _ _ (by decide), up2_n1 _ _ (by decide), up2_n1 _ _ (by decide), up2_eq], by rw [up2_n1 _ _ (by decide), up2_n1 _ _ (by decide), up2_eq], by rw [up2_n1 _ _ (by decide), up2_eq]⟩, by rw [up2_eq, nI_p1], fun x y q1 q2 q3 q4 => ?_, fun _ _ _ _ => rfl⟩
    rw [up2_nb q3, up2_nb (fun z => q2 ⟨by omega, by omega, z.2⟩), up2_nb (fun z => q2 ⟨by omega, by omega, z.2⟩), up2_nb (fun z => q2 ⟨by omega, by omega, z.2⟩), up2_nb (fun z => q2 ⟨by omega, by omega, z.2⟩)]
  refine g_aload_n C dX8_readAct_0 rfl ?_
  refine g_getr (j := 141) C F8 (by rw [hw]; decide) rfl (by decide) 15 (by decide) rfl (hts (.fieldLink RX8 33 "FallBenchModel" "many" "[I") (by decide +kernel)) rfl (hR (15, 141) (by decide)) dX8_readAct_1 ?_
  refine g_iconst (v := 3) C dX8_readAct_4 (by decide) ?_
  refine g_iald (v := nI A.length) C (by rw [hw]; decide) rfl (vp_in_nI (N := 4) (n := 3) (by decide) (by decide)) hAc.1 dX8_readAct_5 ?_
  refine g_bipush (v := 80) C dX8_readAct_6 (by decide) ?_
  refine g_icmp_ne (tgt := 15) C dX8_readAct_8 (by decide) (fun c8 => ?_) (fun c8 => absurd c8 ne80)
  refine g_aload_n C dX8_readAct_15 rfl ?_
  refine g_callVf C hts V (i := 134) (gX8_readAct_X8_isGood) rfl hdX8_isGood (by decide) (Cf.to (c_X8_isGood hw hR) (congrArg (fun z => some (Value.int z)) (show _ = (1 : Int32) from if_pos hg)) rfl) (by rw [hw]; decide) rfl (by decide) rfl rfl (Nat.le_of_ble_eq_true rfl) dX8_readAct_16 ?_
  refine g_if_ne (tgt := 23) C dX8_readAct_19 (by decide) (fun c19 => ?_) (fun c19 => absurd c19 (by decide))
  refine g_aload_n C dX8_readAct_23 rfl ?_
  refine g_getr (j := 141) C F8 (by rw [hw]; decide) rfl (by decide) 15 (by decide) rfl (hts (.fieldLink RX8 33 "FallBenchModel" "many" "[I") (by decide +kernel)) rfl (hR (15, 141) (by decide)) dX8_readAct_24 ?_
  refine g_iconst (v := 3) C dX8_readAct_27 (by decide) ?_
  refine g_iald (v := nI A.length) C (by rw [hw]; decide) rfl (vp_in_nI (N := 4) (n := 3) (by decide) (by decide)) hAc.1 dX8_readAct_28 ?_
  refine g_istore_n C V.2.1 dX8_readAct_29 (by decide) rfl ?_
  refine g_sipush (v := 240) C dX8_readAct_30 (by decide) ?_
  refine g_iload_n C dX8_readAct_33 rfl ?_
  refine g_iadd C dX8_readAct_34 ?_
  rw [show (240 : Int32) + nI A.length = nI (240 + A.length) from nI_add 240 A.length]
  refine g_istore_n C V.2.1 dX8_readAct_35 (by decide) rfl ?_
  refine g_aload_n C dX8_readAct_36 rfl ?_
  refine g_callVf C hts V (i := 134) (gX8_readAct_X8_actHere) rfl hdX8_actHere (by decide) (Cf.to (c_X8_actHere hw hR) (congrArg (fun z => some (Value.int z)) (show _ = nI kk by rw [if_pos (hn.2.1.trans (rk_1 hw1)), e10, kwn_is hW, hkk])) rfl) (by rw [hw]; decide) rfl (by decide) rfl rfl (Nat.le_of_ble_eq_true rfl) dX8_readAct_37 ?_
  refine g_istore_n C V.2.1 dX8_readAct_40 (by decide) rfl ?_
  refine g_aload_n C dX8_readAct_41 rfl ?_
  refine g_getr (j := 137) C F8 (by rw [hw]; decide) rfl (by decide) 11 (by decide) rfl (hts (.fieldLink RX8 20 "FallBenchModel" "aWhat" "[I") (by decide +kernel)) rfl (hR (11, 137) (by decide)) dX8_readAct_42 ?_
  refine g_iload_n C dX8_readAct_45 rfl ?_
  refine g_iload_n C dX8_readAct_46 rfl ?_
  refine g_iast C (by rw [hw]; decide) rfl (hb 137 rfl) dX8_readAct_47 ?_
  rw [nI_clamp (show 240 + A.length < 2 ^ 31 by omega)]
  refine g_aload_n C dX8_readAct_48 rfl ?_
  refine g_getr (j := 138) C F8 (by rw [hw]; decide) rfl (by decide) 12 (by decide) rfl (hts (.fieldLink RX8 24 "FallBenchModel" "aOne" "[I") (by decide +kernel)) rfl (hR (12, 138) (by decide)) dX8_readAct_49 ?_
  refine g_iload_n C dX8_readAct_52 rfl ?_
  refine g_iconst (v := (-1)) C dX8_readAct_53 (by decide) ?_
  refine g_iast C (by rw [hw]; decide) rfl (hb 138 rfl) dX8_readAct_54 ?_
  rw [nI_clamp (show 240 + A.length < 2 ^ 31 by omega)]
  refine g_aload_n C dX8_readAct_55 rfl ?_
  refine g_getr (j := 139) C F8 (by rw [hw]; decide) rfl (by decide) 13 (by decide) rfl (hts (.fieldLink RX8 27 "FallBenchModel" "aTwo" "[I") (by decide +kernel)) rfl (hR (13, 139) (by decide)) dX8_readAct_56 ?_
  refine g_iload_n C dX8_readAct_59 rfl ?_
  refine g_iconst (v := (-1)) C dX8_readAct_60 (by decide) ?_
  refine g_iast C (by rw [hw]; decide) rfl (hb 139 rfl) dX8_readAct_61 ?_
  rw [nI_clamp (show 240 + A.length < 2 ^ 31 by omega)]
  refine g_aload_n C dX8_readAct_62 rfl ?_
  refine g_getr (j := 140) C F8 (by rw [hw]; decide) rfl (by decide) 14 (by decide) rfl (hts (.fieldLink RX8 30 "FallBenchModel" "aN" "[I") (by decide +kernel)) rfl (hR (14, 140) (by decide)) dX8_readAct_63 ?_
  refine g_iload_n C dX8_readAct_66 rfl ?_
  refine g_iconst (v := 0) C dX8_readAct_67 (by decide) ?_
  refine g_iast C (by rw [hw]; decide) rfl (hb 140 rfl) dX8_readAct_68 ?_
  rw [nI_clamp (show 240 + A.length < 2 ^ 31 by omega)]
  refine g_aload_n C dX8_readAct_69 rfl ?_
  refine g_getr (j := 141) C F8 (by rw [hw]; decide) rfl (by decide) 15 (by decide) rfl (hts (.fieldLink RX8 33 "FallBenchModel" "many" "[I") (by decide +kernel)) rfl (hR (15, 141) (by decide)) dX8_readAct_70 ?_
  refine g_iconst (v := 3) C dX8_readAct_73 (by decide) ?_
  refine g_dup2 C dX8_readAct_74 rfl rfl ?_
  refine g_iald (v := nI A.length) C (by rw [hw]; decide) rfl (vp_in_nI (N := 4) (n := 3) (by decide) (by decide)) (by rw [up2_n1 _ _ (by decide), up2_n1 _ _ (by decide), up2_n1 _ _ (by decide), up2_n1 _ _ (by decide)]; exact hAc.1) dX8_readAct_75 ?_
  refine g_iconst (v := 1) C dX8_readAct_76 (by decide) ?_
  refine g_iadd C dX8_readAct_77 ?_
  refine g_iast C (by rw [hw]; decide) rfl (vp_in_nI (N := 4) (n := 3) (by decide) (by decide)) dX8_readAct_78 ?_
  refine g_aload_n C dX8_readAct_79 rfl ?_
  refine g_callVt C hts V (i := 134) (gX8_readAct_X8_next) rfl hdX8_next (by decide) (c_X8_next (p := tpos T (x.1 + 1)) hw hR hX q4.1.1 ((q4.1.2.2.2.2 h0).2.2.1 k0) (tpos_le T _)) (by rw [hw]; decide) rfl (by decide) rfl rfl (Nat.le_of_ble_eq_true rfl) dX8_readAct_80 (fun v M1 J1 R1 h => ?_)
  obtain ⟨v0, r0, hN⟩ := h
  subst v0
  have r0 := Eq.symm r0
  subst r0
  dsimp only at hN
  obtain ⟨hp7, hF7, hJ7⟩ := px_next q4.1 h0 k0 k6 hN
  exact a83 _ _ (by rw [e1]; exact q4.nf hp7 hF7 hJ7 (fun _ => h0))
