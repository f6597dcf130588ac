/-! THE REFERENCE'S PARSER: readLine, goTo -/
theorem t_labs_no {T : List Int32} {c : Nat} (f : Nat) {s : px × pL} (h : ¬ (s.1.2.1 = 0 ∧ isLab T s.1.1)) : t_labs T c f s = s := by
  cases f with
  | zero => rfl
  | succ f => exact if_neg h
theorem rk_e {k c d : Int32} (hd : d = c + 1) (h6 : ¬ c = 6) (h : k = c) : rk k = d := by rw [hd]; exact rk_of h6 h
theorem rk_n {k c d : Int32} (hd : d = c + 1) (hc : ¬ d = 0) (h : ¬ k = c) : ¬ rk k = d := by rw [hd] at hc ⊢; exact rk_inj hc h
theorem rk_0 {k : Int32} (h : rk k = 0) (hk : ¬ k = -1) : k = 6 := by
  unfold rk at h
  split at h
  · assumption
  · exfalso
    apply hk
    have : k + 1 = -1 + 1 := h.trans (by decide)
    exact (Int32.add_left_inj 1).mp this
theorem tkA_k (T : List Int32) (a : Nat) : ¬ (tkA T a).1 = -1 := by
  unfold tkA
  split
  · dsimp only; decide
  · split
    · dsimp only; decide
    · split
      · dsimp only; split <;> decide
      · split
        · dsimp only; split <;> decide
        · dsimp only
          split
          · decide
          · split <;> decide
theorem kwd_pos {W : List Int32} (h : ¬ kwd W = -1) : 0 ≤ kwd W := by
  rcases kwd_cases W with z | ⟨k, z1, z2, z3⟩
  · exact absurd z.1 h
  · rw [z2]; exact nI_pos' (by omega)

set_option maxHeartbeats 4000000 in
set_option maxRecDepth 100000 in
theorem c_X8_readLine {l : Launch} {D : va_G} {w : gw} {M : Nat → Nat → Int32} {J : Nat → Nat → Int64} {R : Nat → Nat → Option Nat} (hw : w.1 = 166) (hR : LayM R) {T : List Int32} (hX : okX T) {x : px} {L : pL} {A : List act6} (hs : stM T M J (x, L, A)) : Ct l yX8_readLine wsX8_readLine ({ frames := 5, cells := 0, slots := 0, locals := 109 } : Room) D w [.ref (w.2.1 134)] (M, J, R) (fun v u => v = none ∧ u.2.2 = R ∧ stM T u.1 u.2.1 (t_line T (x, L, A)) ∧ mF M u.1 ∧ mJ J u.2.1) := by
  obtain ⟨hpx, hoS, hgd⟩ := id hs
  dsimp only at hpx hgd
  have hl : live T x.1 := hoS.1
  refine Cg.of (own := RX8) (cc := cX8_readLine) (maxL := 1) (ret := none) 0 (by decide) rfl rfl (Nat.le_of_ble_eq_true rfl) (fun X C hts V Rr => ?_)
  have F8 : FW X 8 := fun q h => hts q (List.mem_cons_of_mem _ (List.mem_append_right _ h))
  show Gj X 0 0 w M J R 0 [some (.ref (w.2.1 134))] []
  obtain ⟨k1, k2, k3⟩ := t_l1_ok (T := T) (s := (x, L, A)) hl hoS.2.1
  have t47 : ∀ m j, stM T m j ((t_l2 T (x, L, A)).1, (t_l1 T (x, L, A)).2, (t_l2 T (x, L, A)).2) → mF M m → mJ J j → Gj X 0 0 w m j R 47 [some (.ref (w.2.1 134))] [] := by
    intro m j q1 q2 q3
    have hpx2 : pxM T m j (t_l2 T (x, L, A)).1 := q1.1
    by_cases h2 : (t_l2 T (x, L, A)).1.2.1 = 0
    · have hn2 := hpx2.2.2.2.2 h2
      have hg2 := px_good hpx2 h2
      by_cases k5 : tK T (t_l2 T (x, L, A)).1.1 = 5
      · refine g_aload_n C dX8_readLine_47 rfl ?_
        refine g_callVf C hts V (i := 134) (gX8_readLine_X8_isGood) rfl hdX8_isGood (by decide) (Cf.to (c_X8_isGood hw hR) (congrArg (fun z => some (Value.int z)) (show _ = (1 : Int32) from if_pos hg2)) rfl) (by rw [hw]; decide) rfl (by decide) rfl rfl (Nat.le_of_ble_eq_true rfl) dX8_readLine_48 ?_
        refine g_if_eq (tgt := 74) C dX8_readLine_51 (by decide) (fun c51 => absurd c51 (by decide)) (fun c51 => ?_)
        refine g_aload_n C dX8_readLine_54 rfl ?_
        refine g_geti C F8 (by rw [hw]; decide) rfl (by decide) 8 (by decide) rfl (hts (.fieldLink RX8 128 "FallBenchModel" "token" "I") (by decide +kernel)) rfl rfl dX8_readLine_55 ?_
        refine g_bipush (v := 6) C dX8_readLine_58 (by decide) ?_
        refine g_icmp_eq (tgt := 74) C dX8_readLine_60 (by decide) (fun c60 => ?_) (fun c60 => absurd c60 (not_not_intro (hn2.2.1.trans (rk_e (c := 5) rfl (by decide) k5))))
        refine g_aload_n C dX8_readLine_74 rfl ?_
        refine g_callVf C hts V (i := 134) (gX8_readLine_X8_isGood) rfl hdX8_isGood (by decide) (Cf.to (c_X8_isGood hw hR) (congrArg (fun z => some (Value.int z)) (show _ = (1 : Int32) from if_pos hg2)) rfl) (by rw [hw]; decide) rfl (by decide) rfl rfl (Nat.le_of_ble_eq_true rfl) dX8_readLine_75 ?_
        refine g_if_eq (tgt := 94) C dX8_readLine_78 (by decide) (fun c78 => absurd c78 (by decide)) (fun c78 => ?_)
        refine g_aload_n C dX8_readLine_81 rfl ?_
        refine g_geti C F8 (by rw [hw]; decide) rfl (by decide) 8 (by decide) rfl (hts (.fieldLink RX8 128 "FallBenchModel" "token" "I") (by decide +kernel)) rfl rfl dX8_readLine_82 ?_
        refine g_bipush (v := 6) C dX8_readLine_85 (by decide) ?_
        refine g_icmp_ne (tgt := 94) C dX8_readLine_87 (by decide) (fun c87 => absurd c87 (not_not_intro (hn2.2.1.trans (rk_e (c := 5) rfl (by decide) k5)))) (fun c87 => ?_)
        refine g_aload_n C dX8_readLine_90 rfl ?_
        refine g_callVt C hts V (i := 134) (gX8_readLine_X8_next) rfl hdX8_next (by decide) (c_X8_next (p := tpos T ((t_l2 T (x, L, A)).1.1 + 1)) hw hR hX hpx2.1 (hn2.2.2.1 (by rw [k5]; decide)) (tpos_le T _)) (by rw [hw]; decide) rfl (by decide) rfl rfl (Nat.le_of_ble_eq_true rfl) dX8_readLine_91 (fun v M1 J1 R1 h => ?_)
        obtain ⟨v0, r0, hN⟩ := h
        subst v0
        have r0 := Eq.symm r0
        subst r0
        dsimp only at hN
        obtain ⟨hp7, hF7, hJ7⟩ := px_next hpx2 h2 (by rw [k5]; decide) (by rw [k5]; decide) hN
        exact g_vret C Rr ⟨rfl, ⟨rfl, rfl, by rw [t_line, t_fin, if_neg (fun z => by rw [k5] at z; exact absurd z.2 (by decide)), t_take_ok h2 k5]; exact q1.nf hp7 hF7 hJ7 (fun _ => h2), q2.tr hF7.m, q3.tr hJ7.m⟩⟩ dX8_readLine_94
      by_cases k6 : tK T (t_l2 T (x, L, A)).1.1 = 6
      · refine g_aload_n C dX8_readLine_47 rfl ?_
        refine g_callVf C hts V (i := 134) (gX8_readLine_X8_isGood) rfl hdX8_isGood (by decide) (Cf.to (c_X8_isGood hw hR) (congrArg (fun z => some (Value.int z)) (show _ = (1 : Int32) from if_pos hg2)) rfl) (by rw [hw]; decide) rfl (by decide) rfl rfl (Nat.le_of_ble_eq_true rfl) dX8_readLine_48 ?_
        refine g_if_eq (tgt := 74) C dX8_readLine_51 (by decide) (fun c51 => absurd c51 (by decide)) (fun c51 => ?_)
        refine g_aload_n C dX8_readLine_54 rfl ?_
        refine g_geti C F8 (by rw [hw]; decide) rfl (by decide) 8 (by decide) rfl (hts (.fieldLink RX8 128 "FallBenchModel" "token" "I") (by decide +kernel)) rfl rfl dX8_readLine_55 ?_
        refine g_bipush (v := 6) C dX8_readLine_58 (by decide) ?_
        refine g_icmp_eq (tgt := 74) C dX8_readLine_60 (by decide) (fun c60 => absurd c60 (by rw [hn2.2.1]; exact rk_n (c := 5) rfl (by decide) k5)) (fun c60 => ?_)
        refine g_aload_n C dX8_readLine_63 rfl ?_
        refine g_geti C F8 (by rw [hw]; decide) rfl (by decide) 8 (by decide) rfl (hts (.fieldLink RX8 128 "FallBenchModel" "token" "I") (by decide +kernel)) rfl rfl dX8_readLine_64 ?_
        refine g_if_eq (tgt := 74) C dX8_readLine_67 (by decide) (fun c67 => ?_) (fun c67 => absurd c67 (not_not_intro (hn2.2.1.trans (show rk (tK T (t_l2 T (x, L, A)).1.1) = 0 by rw [k6]; decide))))
        refine g_aload_n C dX8_readLine_74 rfl ?_
        refine g_callVf C hts V (i := 134) (gX8_readLine_X8_isGood) rfl hdX8_isGood (by decide) (Cf.to (c_X8_isGood hw hR) (congrArg (fun z => some (Value.int z)) (show _ = (1 : Int32) from if_pos hg2)) rfl) (by rw [hw]; decide) rfl (by decide) rfl rfl (Nat.le_of_ble_eq_true rfl) dX8_readLine_75 ?_
        refine g_if_eq (tgt := 94) C dX8_readLine_78 (by decide) (fun c78 => absurd c78 (by decide)) (fun c78 => ?_)
        refine g_aload_n C dX8_readLine_81 rfl ?_
        refine g_geti C F8 (by rw [hw]; decide) rfl (by decide) 8 (by decide) rfl (hts (.fieldLink RX8 128 "FallBenchModel" "token" "I") (by decide +kernel)) rfl rfl dX8_readLine_82 ?_
        refine g_bipush (v := 6) C dX8_readLine_85 (by decide) ?_
        refine g_icmp_ne (tgt := 94) C dX8_readLine_87 (by decide) (fun c87 => ?_) (fun c87 => absurd c87 (by rw [hn2.2.1]; exact rk_n (c := 5) rfl (by decide) k5))
        exact g_vret C Rr ⟨rfl, ⟨rfl, rfl, by rw [t_line, t_fin, if_pos ⟨h2, k6⟩]; exact q1, q2, q3⟩⟩ dX8_readLine_94
      refine g_aload_n C dX8_readLine_47 rfl ?_
      refine g_callVf C hts V (i := 134) (gX8_readLine_X8_isGood) rfl hdX8_isGood (by decide) (Cf.to (c_X8_isGood hw hR) (congrArg (fun z => some (Value.int z)) (show _ = (1 : Int32) from if_pos hg2)) rfl) (by rw [hw]; decide) rfl (by decide) rfl rfl (Nat.le_of_ble_eq_true rfl) dX8_readLine_48 ?_
      refine g_if_eq (tgt := 74) C dX8_readLine_51 (by decide) (fun c51 => absurd c51 (by decide)) (fun c51 => ?_)
      refine g_aload_n C dX8_readLine_54 rfl ?_
      refine g_geti C F8 (by rw [hw]; decide) rfl (by decide) 8 (by decide) rfl (hts (.fieldLink RX8 128 "FallBenchModel" "token" "I") (by decide +kernel)) rfl rfl dX8_readLine_55 ?_
      refine g_bipush (v := 6) C dX8_readLine_58 (by decide) ?_
      refine g_icmp_eq (tgt := 74) C dX8_readLine_60 (by decide) (fun c60 => absurd c60 (by rw [hn2.2.1]; exact rk_n (c := 5) rfl (by decide) k5)) (fun c60 => ?_)
      refine g_aload_n C dX8_readLine_63 rfl ?_
      refine g_geti C F8 (by rw [hw]; decide) rfl (by decide) 8 (by decide) rfl (hts (.fieldLink RX8 128 "FallBenchModel" "token" "I") (by decide +kernel)) rfl rfl dX8_readLine_64 ?_
      refine g_if_eq (tgt := 74) C dX8_readLine_67 (by decide) (fun c67 => absurd c67 (fun z => k6 (rk_0 (hn2.2.1.symm.trans z) (tkA_k T _)))) (fun c67 => ?_)
      refine g_aload_n C dX8_readLine_70 rfl ?_
      refine g_callVf C hts V (i := 134) (gX8_readLine_X8_wrong) rfl hdX8_wrong (by decide) (c_X8_wrong hw hR hg2) (by rw [hw]; decide) rfl (by decide) rfl rfl (Nat.le_of_ble_eq_true rfl) dX8_readLine_71 ?_
      refine g_aload_n C dX8_readLine_74 rfl ?_
      refine g_callVf C hts V (i := 134) (gX8_readLine_X8_isGood) rfl hdX8_isGood (by decide) (Cf.to (c_X8_isGood hw hR) (congrArg (fun z => some (Value.int z)) (show _ = (0 : Int32) from if_neg (px_ng (px_bad hpx2 h2) (t_bad_ne T _)))) rfl) (by rw [hw]; decide) rfl (by decide) rfl rfl (Nat.le_of_ble_eq_true rfl) dX8_readLine_75 ?_
      refine g_if_eq (tgt := 94) C dX8_readLine_78 (by decide) (fun c78 => ?_) (fun c78 => absurd c78 (not_not_intro rfl))
      exact g_vret C Rr ⟨rfl, ⟨rfl, rfl, by rw [t_line, show t_fin T (t_l2 T (x, L, A)).1 = t_bad T (t_l2 T (x, L, A)).1 from (if_neg (fun z => k6 z.2)).trans (t_take_bad h2 k5)]; exact q1.nf (px_bad hpx2 h2) (nf_w _ _ _) (nfJ.rf j) (fun _ => h2), q2.tr (nf_w _ _ _).m, q3⟩⟩ dX8_readLine_94
    · refine g_aload_n C dX8_readLine_47 rfl ?_
      refine g_callVf C hts V (i := 134) (gX8_readLine_X8_isGood) rfl hdX8_isGood (by decide) (Cf.to (c_X8_isGood hw hR) (congrArg (fun z => some (Value.int z)) (show _ = (0 : Int32) from if_neg (px_ng hpx2 h2))) rfl) (by rw [hw]; decide) rfl (by decide) rfl rfl (Nat.le_of_ble_eq_true rfl) dX8_readLine_48 ?_
      refine g_if_eq (tgt := 74) C dX8_readLine_51 (by decide) (fun c51 => ?_) (fun c51 => absurd c51 (not_not_intro rfl))
      refine g_aload_n C dX8_readLine_74 rfl ?_
      refine g_callVf C hts V (i := 134) (gX8_readLine_X8_isGood) rfl hdX8_isGood (by decide) (Cf.to (c_X8_isGood hw hR) (congrArg (fun z => some (Value.int z)) (show _ = (0 : Int32) from if_neg (px_ng hpx2 h2))) rfl) (by rw [hw]; decide) rfl (by decide) rfl rfl (Nat.le_of_ble_eq_true rfl) dX8_readLine_75 ?_
      refine g_if_eq (tgt := 94) C dX8_readLine_78 (by decide) (fun c78 => ?_) (fun c78 => absurd c78 (not_not_intro rfl))
      exact g_vret C Rr ⟨rfl, ⟨rfl, rfl, by rw [t_line, t_fin, if_neg (fun z => h2 z.1), t_take_ne h2]; exact q1, q2, q3⟩⟩ dX8_readLine_94
  have t29 : ∀ m j, stM T m j ((t_l1 T (x, L, A)).1, (t_l1 T (x, L, A)).2, A) → mF M m → mJ J j → Gj X 0 0 w m j R 29 [some (.ref (w.2.1 134))] [] := by
    intro m j q1 q2 q3
    have hpx1 : pxM T m j (t_l1 T (x, L, A)).1 := q1.1
    by_cases h1 : (t_l1 T (x, L, A)).1.2.1 = 0
    · have hn1 := hpx1.2.2.2.2 h1
      have hg1 := px_good hpx1 h1
      by_cases kk1 : tK T (t_l1 T (x, L, A)).1.1 = 1
      · have hne : ¬ kwd (tW T (t_l1 T (x, L, A)).1.1) = -1 := fun z => k3 ⟨h1, kk1, z⟩
        have hkk : ∃ kk, kk < 14 ∧ kwd (tW T (t_l1 T (x, L, A)).1.1) = nI kk := by
          rcases kwd_cases (tW T (t_l1 T (x, L, A)).1.1) with z | ⟨k, z1, z2, z3⟩
          · exact absurd z.1 hne
          · exact ⟨k, z1, z2⟩
        obtain ⟨kk, hk14, hkk⟩ := hkk
        refine g_aload_n C dX8_readLine_29 rfl ?_
        refine g_callVf C hts V (i := 134) (gX8_readLine_X8_isGood) rfl hdX8_isGood (by decide) (Cf.to (c_X8_isGood hw hR) (congrArg (fun z => some (Value.int z)) (show _ = (1 : Int32) from if_pos hg1)) rfl) (by rw [hw]; decide) rfl (by decide) rfl rfl (Nat.le_of_ble_eq_true rfl) dX8_readLine_30 ?_
        refine g_if_eq (tgt := 47) C dX8_readLine_33 (by decide) (fun c33 => absurd c33 (by decide)) (fun c33 => ?_)
        refine g_aload_n C dX8_readLine_36 rfl ?_
        refine g_callVf C hts V (i := 134) (gX8_readLine_X8_actHere) rfl hdX8_actHere (by decide) (Cf.to (c_X8_actHere hw hR) (congrArg (fun z => some (Value.int z)) (show _ = nI kk by rw [if_pos (hn1.2.1.trans (rk_1 kk1)), hn1.2.2.2.2 kk1, kwn_is (tW_ok kk1), hkk])) rfl) (by rw [hw]; decide) rfl (by decide) rfl rfl (Nat.le_of_ble_eq_true rfl) dX8_readLine_37 ?_
        refine g_if_lt (tgt := 47) C dX8_readLine_40 (by decide) (fun c40 => absurd c40 (nI_pos (by omega))) (fun c40 => ?_)
        refine g_aload_n C dX8_readLine_43 rfl ?_
        refine g_callVt C hts V (i := 134) (gX8_readLine_X8_readAct) rfl hdX8_readAct (by decide) (c_X8_readAct hw hR hX q1 h1 kk1 hk14 hkk) (by rw [hw]; decide) rfl (by decide) rfl rfl (Nat.le_of_ble_eq_true rfl) dX8_readLine_44 (fun v M1 J1 R1 h => ?_)
        obtain ⟨v0, r0, hst, hF1, hJ1⟩ := h
        subst v0
        have r0 := Eq.symm r0
        subst r0
        dsimp only at hst hF1 hJ1
        exact t47 _ _ hst (q2.tr hF1) (q3.tr hJ1)
      · refine g_aload_n C dX8_readLine_29 rfl ?_
        refine g_callVf C hts V (i := 134) (gX8_readLine_X8_isGood) rfl hdX8_isGood (by decide) (Cf.to (c_X8_isGood hw hR) (congrArg (fun z => some (Value.int z)) (show _ = (1 : Int32) from if_pos hg1)) rfl) (by rw [hw]; decide) rfl (by decide) rfl rfl (Nat.le_of_ble_eq_true rfl) dX8_readLine_30 ?_
        refine g_if_eq (tgt := 47) C dX8_readLine_33 (by decide) (fun c33 => absurd c33 (by decide)) (fun c33 => ?_)
        refine g_aload_n C dX8_readLine_36 rfl ?_
        refine g_callVf C hts V (i := 134) (gX8_readLine_X8_actHere) rfl hdX8_actHere (by decide) (Cf.to (c_X8_actHere hw hR) (congrArg (fun z => some (Value.int z)) (show _ = (-1 : Int32) from if_neg (by rw [hn1.2.1]; exact rk_n (c := 1) rfl (by decide) kk1))) rfl) (by rw [hw]; decide) rfl (by decide) rfl rfl (Nat.le_of_ble_eq_true rfl) dX8_readLine_37 ?_
        refine g_if_lt (tgt := 47) C dX8_readLine_40 (by decide) (fun c40 => ?_) (fun c40 => absurd c40 (not_not_intro (by decide)))
        exact t47 m j (by rw [show t_l2 T (x, L, A) = ((t_l1 T (x, L, A)).1, A) from if_neg (fun z => kk1 z.2)]; exact q1) q2 q3
    · refine g_aload_n C dX8_readLine_29 rfl ?_
      refine g_callVf C hts V (i := 134) (gX8_readLine_X8_isGood) rfl hdX8_isGood (by decide) (Cf.to (c_X8_isGood hw hR) (congrArg (fun z => some (Value.int z)) (show _ = (0 : Int32) from if_neg (px_ng hpx1 h1))) rfl) (by rw [hw]; decide) rfl (by decide) rfl rfl (Nat.le_of_ble_eq_true rfl) dX8_readLine_30 ?_
      refine g_if_eq (tgt := 47) C dX8_readLine_33 (by decide) (fun c33 => ?_) (fun c33 => absurd c33 (not_not_intro rfl))
      exact t47 m j (by rw [show t_l2 T (x, L, A) = ((t_l1 T (x, L, A)).1, A) from if_neg (fun z => h1 z.1)]; exact q1) q2 q3
  have loop : ∀ f m j y L1, (21 ≤ L1.length + f ∨ ¬ y.2.1 = 0) → stM T m j (y, L1, A) → mF M m → mJ J j → t_labs T A.length f (y, L1) = t_l1 T (x, L, A) → Gj X 0 0 w m j R 0 [some (.ref (w.2.1 134))] [] := by
    intro f
    induction f with
    | zero =>
      intro m j y L1 q0 q1 q2 q3 q4
      have hpy : pxM T m j y := q1.1
      by_cases hil : y.2.1 = 0 ∧ isLab T y.1
      · exact absurd q1.2.1.2.1 (by rcases q0 with z | z; exact (fun y => by have y : L1.length ≤ 20 := y; omega); exact absurd hil.1 z)
      · have e29 : Gj X 0 0 w m j R 29 [some (.ref (w.2.1 134))] [] := t29 m j (by rw [← q4, t_labs_no _ hil]; exact q1) q2 q3
        by_cases hy : y.2.1 = 0
        · have hny := hpy.2.2.2.2 hy
          have hgy := px_good hpy hy
          by_cases ky : tK T y.1 = 1
          · have hne : ¬ kwd (tW T y.1) = -1 := fun z => hil ⟨hy, ky, z⟩
            refine g_aload_n C dX8_readLine_0 rfl ?_
            refine g_callVf C hts V (i := 134) (gX8_readLine_X8_isGood) rfl hdX8_isGood (by decide) (Cf.to (c_X8_isGood hw hR) (congrArg (fun z => some (Value.int z)) (show _ = (1 : Int32) from if_pos hgy)) rfl) (by rw [hw]; decide) rfl (by decide) rfl rfl (Nat.le_of_ble_eq_true rfl) dX8_readLine_1 ?_
            refine g_if_eq (tgt := 29) C dX8_readLine_4 (by decide) (fun c4 => absurd c4 (by decide)) (fun c4 => ?_)
            refine g_aload_n C dX8_readLine_7 rfl ?_
            refine g_geti C F8 (by rw [hw]; decide) rfl (by decide) 8 (by decide) rfl (hts (.fieldLink RX8 128 "FallBenchModel" "token" "I") (by decide +kernel)) rfl rfl dX8_readLine_8 ?_
            refine g_iconst (v := 2) C dX8_readLine_11 (by decide) ?_
            refine g_icmp_ne (tgt := 29) C dX8_readLine_12 (by decide) (fun c12 => absurd c12 (not_not_intro (hny.2.1.trans (rk_1 ky)))) (fun c12 => ?_)
            refine g_aload_n C dX8_readLine_15 rfl ?_
            refine g_callVf C hts V (i := 134) (gX8_readLine_X8_actHere) rfl hdX8_actHere (by decide) (Cf.to (c_X8_actHere hw hR) (congrArg (fun z => some (Value.int z)) (show _ = kwd (tW T y.1) by rw [if_pos (hny.2.1.trans (rk_1 ky)), hny.2.2.2.2 ky, kwn_is (tW_ok ky)])) rfl) (by rw [hw]; decide) rfl (by decide) rfl rfl (Nat.le_of_ble_eq_true rfl) dX8_readLine_16 ?_
            refine g_if_ge (tgt := 29) C dX8_readLine_19 (by decide) (fun c19 => ?_) (fun c19 => absurd c19 (not_not_intro (kwd_pos hne)))
            exact e29
          · refine g_aload_n C dX8_readLine_0 rfl ?_
            refine g_callVf C hts V (i := 134) (gX8_readLine_X8_isGood) rfl hdX8_isGood (by decide) (Cf.to (c_X8_isGood hw hR) (congrArg (fun z => some (Value.int z)) (show _ = (1 : Int32) from if_pos hgy)) rfl) (by rw [hw]; decide) rfl (by decide) rfl rfl (Nat.le_of_ble_eq_true rfl) dX8_readLine_1 ?_
            refine g_if_eq (tgt := 29) C dX8_readLine_4 (by decide) (fun c4 => absurd c4 (by decide)) (fun c4 => ?_)
            refine g_aload_n C dX8_readLine_7 rfl ?_
            refine g_geti C F8 (by rw [hw]; decide) rfl (by decide) 8 (by decide) rfl (hts (.fieldLink RX8 128 "FallBenchModel" "token" "I") (by decide +kernel)) rfl rfl dX8_readLine_8 ?_
            refine g_iconst (v := 2) C dX8_readLine_11 (by decide) ?_
            refine g_icmp_ne (tgt := 29) C dX8_readLine_12 (by decide) (fun c12 => ?_) (fun c12 => absurd c12 (by rw [hny.2.1]; exact rk_n (c := 1) rfl (by decide) ky))
            exact e29
        · refine g_aload_n C dX8_readLine_0 rfl ?_
          refine g_callVf C hts V (i := 134) (gX8_readLine_X8_isGood) rfl hdX8_isGood (by decide) (Cf.to (c_X8_isGood hw hR) (congrArg (fun z => some (Value.int z)) (show _ = (0 : Int32) from if_neg (px_ng hpy hy))) rfl) (by rw [hw]; decide) rfl (by decide) rfl rfl (Nat.le_of_ble_eq_true rfl) dX8_readLine_1 ?_
          refine g_if_eq (tgt := 29) C dX8_readLine_4 (by decide) (fun c4 => ?_) (fun c4 => absurd c4 (not_not_intro rfl))
          exact e29
    | succ f ih =>
      intro m j y L1 q0 q1 q2 q3 q4
      have hpy : pxM T m j y := q1.1
      by_cases hil : y.2.1 = 0 ∧ isLab T y.1
      · have hy := hil.1
        have hny := hpy.2.2.2.2 hy
        have ky := hil.2.1
        refine g_aload_n C dX8_readLine_0 rfl ?_
        refine g_callVf C hts V (i := 134) (gX8_readLine_X8_isGood) rfl hdX8_isGood (by decide) (Cf.to (c_X8_isGood hw hR) (congrArg (fun z => some (Value.int z)) (show _ = (1 : Int32) from if_pos (px_good hpy hy))) rfl) (by rw [hw]; decide) rfl (by decide) rfl rfl (Nat.le_of_ble_eq_true rfl) dX8_readLine_1 ?_
        refine g_if_eq (tgt := 29) C dX8_readLine_4 (by decide) (fun c4 => absurd c4 (by decide)) (fun c4 => ?_)
        refine g_aload_n C dX8_readLine_7 rfl ?_
        refine g_geti C F8 (by rw [hw]; decide) rfl (by decide) 8 (by decide) rfl (hts (.fieldLink RX8 128 "FallBenchModel" "token" "I") (by decide +kernel)) rfl rfl dX8_readLine_8 ?_
        refine g_iconst (v := 2) C dX8_readLine_11 (by decide) ?_
        refine g_icmp_ne (tgt := 29) C dX8_readLine_12 (by decide) (fun c12 => absurd c12 (not_not_intro (hny.2.1.trans (rk_1 ky)))) (fun c12 => ?_)
        refine g_aload_n C dX8_readLine_15 rfl ?_
        refine g_callVf C hts V (i := 134) (gX8_readLine_X8_actHere) rfl hdX8_actHere (by decide) (Cf.to (c_X8_actHere hw hR) (congrArg (fun z => some (Value.int z)) (show _ = (-1 : Int32) by rw [if_pos (hny.2.1.trans (rk_1 ky)), hny.2.2.2.2 ky, kwn_is (tW_ok ky)]; exact hil.2.2)) rfl) (by rw [hw]; decide) rfl (by decide) rfl rfl (Nat.le_of_ble_eq_true rfl) dX8_readLine_16 ?_
        refine g_if_ge (tgt := 29) C dX8_readLine_19 (by decide) (fun c19 => absurd c19 (by decide)) (fun c19 => ?_)
        refine g_aload_n C dX8_readLine_22 rfl ?_
        refine g_callVt C hts V (i := 134) (gX8_readLine_X8_readLabel) rfl hdX8_readLabel (by decide) (c_X8_readLabel hw hR hX q1 hy hil.2) (by rw [hw]; decide) rfl (by decide) rfl rfl (Nat.le_of_ble_eq_true rfl) dX8_readLine_23 (fun v M1 J1 R1 h => ?_)
        obtain ⟨v0, r0, hst, hF1, hJ1⟩ := h
        subst v0
        have r0 := Eq.symm r0
        subst r0
        dsimp only at hst hF1 hJ1
        refine g_goto (tgt := 0) C dX8_readLine_26 (by decide) ?_
        refine ih _ _ _ _ ?_ hst (q2.tr hF1) (q3.tr hJ1) (by rw [← q4]; exact (if_pos hil).symm)
        by_cases g : (t_lab T A.length (y, L1)).1.2.1 = 0
        · have h5 := (t_lab_ok (T := T) (c := A.length) (s := (y, L1)) q1.2.1.1 q1.2.1.2.1).2.2 g
          refine Or.inl ?_
          have h5 : (t_lab T A.length (y, L1)).2.length = L1.length + 1 := h5
          rcases q0 with z | z
          · omega
          · exact absurd hy z
        · exact Or.inr g
      · have e29 : Gj X 0 0 w m j R 29 [some (.ref (w.2.1 134))] [] := t29 m j (by rw [← q4, t_labs_no _ hil]; exact q1) q2 q3
        by_cases hy : y.2.1 = 0
        · have hny := hpy.2.2.2.2 hy
          have hgy := px_good hpy hy
          by_cases ky : tK T y.1 = 1
          · have hne : ¬ kwd (tW T y.1) = -1 := fun z => hil ⟨hy, ky, z⟩
            refine g_aload_n C dX8_readLine_0 rfl ?_
            refine g_callVf C hts V (i := 134) (gX8_readLine_X8_isGood) rfl hdX8_isGood (by decide) (Cf.to (c_X8_isGood hw hR) (congrArg (fun z => some (Value.int z)) (show _ = (1 : Int32) from if_pos hgy)) rfl) (by rw [hw]; decide) rfl (by decide) rfl rfl (Nat.le_of_ble_eq_true rfl) dX8_readLine_1 ?_
            refine g_if_eq (tgt := 29) C dX8_readLine_4 (by decide) (fun c4 => absurd c4 (by decide)) (fun c4 => ?_)
            refine g_aload_n C dX8_readLine_7 rfl ?_
            refine g_geti C F8 (by rw [hw]; decide) rfl (by decide) 8 (by decide) rfl (hts (.fieldLink RX8 128 "FallBenchModel" "token" "I") (by decide +kernel)) rfl rfl dX8_readLine_8 ?_
            refine g_iconst (v := 2) C dX8_readLine_11 (by decide) ?_
            refine g_icmp_ne (tgt := 29) C dX8_readLine_12 (by decide) (fun c12 => absurd c12 (not_not_intro (hny.2.1.trans (rk_1 ky)))) (fun c12 => ?_)
            refine g_aload_n C dX8_readLine_15 rfl ?_
            refine g_callVf C hts V (i := 134) (gX8_readLine_X8_actHere) rfl hdX8_actHere (by decide) (Cf.to (c_X8_actHere hw hR) (congrArg (fun z => some (Value.int z)) (show _ = kwd (tW T y.1) by rw [if_pos (hny.2.1.trans (rk_1 ky)), hny.2.2.2.2 ky, kwn_is (tW_ok ky)])) rfl) (by rw [hw]; decide) rfl (by decide) rfl rfl (Nat.le_of_ble_eq_true rfl) dX8_readLine_16 ?_
            refine g_if_ge (tgt := 29) C dX8_readLine_19 (by decide) (fun c19 => ?_) (fun c19 => absurd c19 (not_not_intro (kwd_pos hne)))
            exact e29
          · refine g_aload_n C dX8_readLine_0 rfl ?_
            refine g_callVf C hts V (i := 134) (gX8_readLine_X8_isGood) rfl hdX8_isGood (by decide) (Cf.to (c_X8_isGood hw hR) (congrArg (fun z => some (Value.int z)) (show _ = (1 : Int32) from if_pos hgy)) rfl) (by rw [hw]; decide) rfl (by decide) rfl rfl (Nat.le_of_ble_eq_true rfl) dX8_readLine_1 ?_
            refine g_if_eq (tgt := 29) C dX8_readLine_4 (by decide) (fun c4 => absurd c4 (by decide)) (fun c4 => ?_)
            refine g_aload_n C dX8_readLine_7 rfl ?_
            refine g_geti C F8 (by rw [hw]; decide) rfl (by decide) 8 (by decide) rfl (hts (.fieldLink RX8 128 "FallBenchModel" "token" "I") (by decide +kernel)) rfl rfl dX8_readLine_8 ?_
            refine g_iconst (v := 2) C dX8_readLine_11 (by decide) ?_
            refine g_icmp_ne (tgt := 29) C dX8_readLine_12 (by decide) (fun c12 => ?_) (fun c12 => absurd c12 (by rw [hny.2.1]; exact rk_n (c := 1) rfl (by decide) ky))
            exact e29
        · refine g_aload_n C dX8_readLine_0 rfl ?_
          refine g_callVf C hts V (i := 134) (gX8_readLine_X8_isGood) rfl hdX8_isGood (by decide) (Cf.to (c_X8_isGood hw hR) (congrArg (fun z => some (Value.int z)) (show _ = (0 : Int32) from if_neg (px_ng hpy hy))) rfl) (by rw [hw]; decide) rfl (by decide) rfl rfl (Nat.le_of_ble_eq_true rfl) dX8_readLine_1 ?_
          refine g_if_eq (tgt := 29) C dX8_readLine_4 (by decide) (fun c4 => ?_) (fun c4 => absurd c4 (not_not_intro rfl))
          exact e29
  exact loop 21 M J x L (Or.inl (by omega)) hs (mF.rf M) (mJ.rf J) rfl

def gtM (M : Nat → Nat → Int32) (L : pL) (a : act6) (k : Nat) : Nat → Nat → Int32 := if goL a.1.1 = 0 then M else match lfd L a.2.1 with
  | none => up2 (up2 M 134 4 4) 134 5 a.2.2
  | some h => up2 M 140 (240 + k) (nI (L.getD h ([], 0)).2)
theorem goB : ∀ kk : Int32, (goL kk = 0) ↔ (kk < 8 ∨ 10 < kk) := by
  intro kk
  unfold goL
  constructor
  · intro h
    split at h
    · exact absurd h (by decide)
    · split at h
      · exact absurd h (by decide)
      · split at h
        · exact absurd h (by decide)
        · rename_i n8 n9 n10
          rcases Int32.le_total 8 kk with z | z
          · refine Or.inr ?_
            rw [Int32.le_iff_toInt_le] at z
            rw [Int32.lt_iff_toInt_lt]
            have e8 : ¬ kk.toInt = 8 := fun y => n8 (Int32.toInt_inj.mp y)
            have e9 : ¬ kk.toInt = 9 := fun y => n9 (Int32.toInt_inj.mp y)
            have e10 : ¬ kk.toInt = 10 := fun y => n10 (Int32.toInt_inj.mp y)
            have c8 : (8 : Int32).toInt = 8 := by decide
            have c10 : (10 : Int32).toInt = 10 := by decide
            omega
          · refine Or.inl ?_
            rw [Int32.le_iff_toInt_le] at z
            rw [Int32.lt_iff_toInt_lt]
            have e8 : ¬ kk.toInt = 8 := fun y => n8 (Int32.toInt_inj.mp y)
            have c8 : (8 : Int32).toInt = 8 := by decide
            omega
  · intro h
    rw [if_neg (fun z => by rw [z] at h; exact absurd h (by decide)), if_neg (fun z => by rw [z] at h; exact absurd h (by decide)), if_neg (fun z => by rw [z] at h; exact absurd h (by decide))]

set_option maxHeartbeats 4000000 in
set_option maxRecDepth 100000 in
theorem c_X8_goTo {l : Launch} {D : va_G} {w : gw} {M : Nat → Nat → Int32} {J : Nat → Nat → Int64} {R : Nat → Nat → Option Nat} (hw : w.1 = 166) (hR : LayM R) {L : pL} {a : act6} {k : Nat} (hk : k < 80) (hg : M 134 4 = 0) (hLb : labM M J L) (hL20 : L.length ≤ 20) (hoL : okLs L) (hW : ¬ goL a.1.1 = 0 → okW a.2.1 ∧ J 145 k = enc8 a.2.1 ∧ M 143 k = a.2.2) (h7 : M 137 (240 + k) = a.1.1) : Cf l yX8_goTo wsX8_goTo ({ frames := 1, cells := 0, slots := 0, locals := 23 } : Room) D w [.ref (w.2.1 134), .int (nI k)] M J R none (gtM M L a k) J R := by
  refine Cg.of (own := RX8) (cc := cX8_goTo) (maxL := 4) (ret := none) 2 (by decide) rfl rfl (Nat.le_of_ble_eq_true rfl) (fun X C hts V Rr => ?_)
  have F8 : FW X 8 := fun q h => hts q (List.mem_cons_of_mem _ (List.mem_append_right _ h))
  show Gj X 0 0 w M J R 0 [some (.ref (w.2.1 134)), some (.int (nI k)), none, none] []
  by_cases hgo : goL a.1.1 = 0
  · have hgg := (goB a.1.1).mp hgo
    refine g_sipush (v := 240) C dX8_goTo_0 (by decide) ?_
    refine g_iload_n C dX8_goTo_3 rfl ?_
    refine g_iadd C dX8_goTo_4 ?_
    rw [show (240 : Int32) + nI k = nI (240 + k) from nI_add 240 k]
    refine g_istore_n C V.2.1 dX8_goTo_5 (by decide) rfl ?_
    refine g_aload_n C dX8_goTo_6 rfl ?_
    refine g_getr (j := 137) C F8 (by rw [hw]; decide) rfl (by decide) 11 (by decide) rfl (hts (.fieldLink RX8 20 "FallBenchModel" "aWhat" "[I") (by decide +kernel)) rfl (hR (11, 137) (by decide)) dX8_goTo_7 ?_
    refine g_iload_n C dX8_goTo_10 rfl ?_
    refine g_iald (v := a.1.1) C (by rw [hw]; decide) rfl (vp_in_nI (N := 320) (by omega) (by decide)) (by rw [nI_clamp (show 240 + k < 2 ^ 31 by omega)]; exact h7) dX8_goTo_11 ?_
    refine g_bipush (v := 8) C dX8_goTo_12 (by decide) ?_
    refine g_icmp_lt (tgt := 28) C dX8_goTo_14 (by decide) (fun c14 => ?_) (fun c14 => ?_)
    · exact g_vret C Rr ⟨rfl, ⟨rfl, by rw [gtM, if_pos hgo]⟩⟩ dX8_goTo_28
    · refine g_aload_n C dX8_goTo_17 rfl ?_
      refine g_getr (j := 137) C F8 (by rw [hw]; decide) rfl (by decide) 11 (by decide) rfl (hts (.fieldLink RX8 20 "FallBenchModel" "aWhat" "[I") (by decide +kernel)) rfl (hR (11, 137) (by decide)) dX8_goTo_18 ?_
      refine g_iload_n C dX8_goTo_21 rfl ?_
      refine g_iald (v := a.1.1) C (by rw [hw]; decide) rfl (vp_in_nI (N := 320) (by omega) (by decide)) (by rw [nI_clamp (show 240 + k < 2 ^ 31 by omega)]; exact h7) dX8_goTo_22 ?_
      refine g_bipush (v := 10) C dX8_goTo_23 (by decide) ?_
      refine g_icmp_le (tgt := 29) C dX8_goTo_25 (by decide) (fun c25 => ?_) (fun c25 => ?_)
      · exact absurd hgg (fun z => z.elim c14 (fun y => absurd y (fun q => absurd (Int32.lt_of_lt_of_le q c25) (Int32.lt_irrefl))))
      · exact g_vret C Rr ⟨rfl, ⟨rfl, by rw [gtM, if_pos hgo]⟩⟩ dX8_goTo_28
  have hng : ¬ (a.1.1 < 8 ∨ 10 < a.1.1) := fun z => hgo ((goB a.1.1).mpr z)
  have hw2 := hW hgo
  rcases hf : lfd L a.2.1 with _ | h
  · refine g_sipush (v := 240) C dX8_goTo_0 (by decide) ?_
    refine g_iload_n C dX8_goTo_3 rfl ?_
    refine g_iadd C dX8_goTo_4 ?_
    rw [show (240 : Int32) + nI k = nI (240 + k) from nI_add 240 k]
    refine g_istore_n C V.2.1 dX8_goTo_5 (by decide) rfl ?_
    refine g_aload_n C dX8_goTo_6 rfl ?_
    refine g_getr (j := 137) C F8 (by rw [hw]; decide) rfl (by decide) 11 (by decide) rfl (hts (.fieldLink RX8 20 "FallBenchModel" "aWhat" "[I") (by decide +kernel)) rfl (hR (11, 137) (by decide)) dX8_goTo_7 ?_
    refine g_iload_n C dX8_goTo_10 rfl ?_
    refine g_iald (v := a.1.1) C (by rw [hw]; decide) rfl (vp_in_nI (N := 320) (by omega) (by decide)) (by rw [nI_clamp (show 240 + k < 2 ^ 31 by omega)]; exact h7) dX8_goTo_11 ?_
    refine g_bipush (v := 8) C dX8_goTo_12 (by decide) ?_
    refine g_icmp_lt (tgt := 28) C dX8_goTo_14 (by decide) (fun c14 => absurd c14 (fun z => hng (Or.inl z))) (fun c14 => ?_)
    refine g_aload_n C dX8_goTo_17 rfl ?_
    refine g_getr (j := 137) C F8 (by rw [hw]; decide) rfl (by decide) 11 (by decide) rfl (hts (.fieldLink RX8 20 "FallBenchModel" "aWhat" "[I") (by decide +kernel)) rfl (hR (11, 137) (by decide)) dX8_goTo_18 ?_
    refine g_iload_n C dX8_goTo_21 rfl ?_
    refine g_iald (v := a.1.1) C (by rw [hw]; decide) rfl (vp_in_nI (N := 320) (by omega) (by decide)) (by rw [nI_clamp (show 240 + k < 2 ^ 31 by omega)]; exact h7) dX8_goTo_22 ?_
    refine g_bipush (v := 10) C dX8_goTo_23 (by decide) ?_
    refine g_icmp_le (tgt := 29) C dX8_goTo_25 (by decide) (fun c25 => ?_) (fun c25 => absurd c25 (not_not_intro (le_of_nlt (fun z => hng (Or.inr z)))))
    refine g_aload_n C dX8_goTo_29 rfl ?_
    refine g_aload_n C dX8_goTo_30 rfl ?_
    refine g_getr (j := 145) C F8 (by rw [hw]; decide) rfl (by decide) 19 (by decide) rfl (hts (.fieldLink RX8 46 "FallBenchModel" "goesTo" "[J") (by decide +kernel)) rfl (hR (19, 145) (by decide)) dX8_goTo_31 ?_
    refine g_iload_n C dX8_goTo_34 rfl ?_
    refine g_lald (v := enc8 a.2.1) C (by rw [hw]; decide) rfl (vp_in_nI (N := 80) hk (by decide)) (by rw [nI_clamp (by omega)]; exact hw2.2.1) dX8_goTo_35 ?_
    refine g_callVf C hts V (i := 134) (gX8_goTo_X8_labelOf) rfl hdX8_labelOf (by decide) (Cf.to (c_X8_labelOf (c := L.length) hw hR hLb.1 hL20) (congrArg (fun z => some (Value.int z)) (show _ = (-1 : Int32) by rw [lfd_im hLb hoL hw2.1, hf]; rfl)) rfl) (by rw [hw]; decide) rfl (by decide) rfl rfl (Nat.le_of_ble_eq_true rfl) dX8_goTo_36 ?_
    refine g_istore_n C V.2.1 dX8_goTo_39 (by decide) rfl ?_
    refine g_iload_n C dX8_goTo_40 rfl ?_
    refine g_if_ge (tgt := 58) C dX8_goTo_41 (by decide) (fun c41 => absurd c41 (by decide)) (fun c41 => ?_)
    refine g_aload_n C dX8_goTo_44 rfl ?_
    refine g_iconst (v := 4) C dX8_goTo_45 (by decide) ?_
    refine g_aload_n C dX8_goTo_46 rfl ?_
    refine g_getr (j := 143) C F8 (by rw [hw]; decide) rfl (by decide) 17 (by decide) rfl (hts (.fieldLink RX8 39 "FallBenchModel" "goesAt" "[I") (by decide +kernel)) rfl (hR (17, 143) (by decide)) dX8_goTo_47 ?_
    refine g_iload_n C dX8_goTo_50 rfl ?_
    refine g_iald (v := a.2.2) C (by rw [hw]; decide) rfl (vp_in_nI (N := 80) hk (by decide)) (by rw [nI_clamp (by omega)]; exact hw2.2.2) dX8_goTo_51 ?_
    refine g_callVf C hts V (i := 134) (gX8_goTo_X8_fails) rfl hdX8_fails (by decide) (c_X8_fails hw hR hg) (by rw [hw]; decide) rfl (by decide) rfl rfl (Nat.le_of_ble_eq_true rfl) dX8_goTo_52 ?_
    refine g_goto (tgt := 70) C dX8_goTo_55 (by decide) ?_
    exact g_vret C Rr ⟨rfl, ⟨rfl, by rw [gtM, if_neg hgo, hf]⟩⟩ dX8_goTo_70
  · have hh := (hfd_spec hf).1
    refine g_sipush (v := 240) C dX8_goTo_0 (by decide) ?_
    refine g_iload_n C dX8_goTo_3 rfl ?_
    refine g_iadd C dX8_goTo_4 ?_
    rw [show (240 : Int32) + nI k = nI (240 + k) from nI_add 240 k]
    refine g_istore_n C V.2.1 dX8_goTo_5 (by decide) rfl ?_
    refine g_aload_n C dX8_goTo_6 rfl ?_
    refine g_getr (j := 137) C F8 (by rw [hw]; decide) rfl (by decide) 11 (by decide) rfl (hts (.fieldLink RX8 20 "FallBenchModel" "aWhat" "[I") (by decide +kernel)) rfl (hR (11, 137) (by decide)) dX8_goTo_7 ?_
    refine g_iload_n C dX8_goTo_10 rfl ?_
    refine g_iald (v := a.1.1) C (by rw [hw]; decide) rfl (vp_in_nI (N := 320) (by omega) (by decide)) (by rw [nI_clamp (show 240 + k < 2 ^ 31 by omega)]; exact h7) dX8_goTo_11 ?_
    refine g_bipush (v := 8) C dX8_goTo_12 (by decide) ?_
    refine g_icmp_lt (tgt := 28) C dX8_goTo_14 (by decide) (fun c14 => absurd c14 (fun z => hng (Or.inl z))) (fun c14 => ?_)
    refine g_aload_n C dX8_goTo_17 rfl ?_
    refine g_getr (j := 137) C F8 (by rw [hw]; decide) rfl (by decide) 11 (by decide) rfl (hts (.fieldLink RX8 20 "FallBenchModel" "aWhat" "[I") (by decide +kernel)) rfl (hR (11, 137) (by decide)) dX8_goTo_18 ?_
    refine g_iload_n C dX8_goTo_21 rfl ?_
    refine g_iald (v := a.1.1) C (by rw [hw]; decide) rfl (vp_in_nI (N := 320) (by omega) (by decide)) (by rw [nI_clamp (show 240 + k < 2 ^ 31 by omega)]; exact h7) dX8_goTo_22 ?_
    refine g_bipush (v := 10) C dX8_goTo_23 (by decide) ?_
    refine g_icmp_le (tgt := 29) C dX8_goTo_25 (by decide) (fun c25 => ?_) (fun c25 => absurd c25 (not_not_intro (le_of_nlt (fun z => hng (Or.inr z)))))
    refine g_aload_n C dX8_goTo_29 rfl ?_
    refine g_aload_n C dX8_goTo_30 rfl ?_
    refine g_getr (j := 145) C F8 (by rw [hw]; decide) rfl (by decide) 19 (by decide) rfl (hts (.fieldLink RX8 46 "FallBenchModel" "goesTo" "[J") (by decide +kernel)) rfl (hR (19, 145) (by decide)) dX8_goTo_31 ?_
    refine g_iload_n C dX8_goTo_34 rfl ?_
    refine g_lald (v := enc8 a.2.1) C (by rw [hw]; decide) rfl (vp_in_nI (N := 80) hk (by decide)) (by rw [nI_clamp (by omega)]; exact hw2.2.1) dX8_goTo_35 ?_
    refine g_callVf C hts V (i := 134) (gX8_goTo_X8_labelOf) rfl hdX8_labelOf (by decide) (Cf.to (c_X8_labelOf (c := L.length) hw hR hLb.1 hL20) (congrArg (fun z => some (Value.int z)) (show _ = nI h by rw [lfd_im hLb hoL hw2.1, hf]; rfl)) rfl) (by rw [hw]; decide) rfl (by decide) rfl rfl (Nat.le_of_ble_eq_true rfl) dX8_goTo_36 ?_
    refine g_istore_n C V.2.1 dX8_goTo_39 (by decide) rfl ?_
    refine g_iload_n C dX8_goTo_40 rfl ?_
    refine g_if_ge (tgt := 58) C dX8_goTo_41 (by decide) (fun c41 => ?_) (fun c41 => absurd c41 (not_not_intro (nI_pos' (by omega))))
    refine g_aload_n C dX8_goTo_58 rfl ?_
    refine g_getr (j := 140) C F8 (by rw [hw]; decide) rfl (by decide) 14 (by decide) rfl (hts (.fieldLink RX8 30 "FallBenchModel" "aN" "[I") (by decide +kernel)) rfl (hR (14, 140) (by decide)) dX8_goTo_59 ?_
    refine g_iload_n C dX8_goTo_62 rfl ?_
    refine g_aload_n C dX8_goTo_63 rfl ?_
    refine g_getr (j := 142) C F8 (by rw [hw]; decide) rfl (by decide) 16 (by decide) rfl (hts (.fieldLink RX8 36 "FallBenchModel" "labelAt" "[I") (by decide +kernel)) rfl (hR (16, 142) (by decide)) dX8_goTo_64 ?_
    refine g_iload_n C dX8_goTo_67 rfl ?_
    refine g_iald (v := nI (L.getD h ([], 0)).2) C (by rw [hw]; decide) rfl (vp_in_nI (N := 20) (by omega) (by decide)) (by rw [nI_clamp (by omega)]; exact (hLb.2 h hh).2) dX8_goTo_68 ?_
    refine g_iast C (by rw [hw]; decide) rfl (vp_in_nI (N := 320) (by omega) (by decide)) dX8_goTo_69 ?_
    exact g_vret C Rr ⟨rfl, ⟨rfl, by rw [gtM, if_neg hgo, hf, nI_clamp (show 240 + k < 2 ^ 31 by omega)]⟩⟩ dX8_goTo_70
