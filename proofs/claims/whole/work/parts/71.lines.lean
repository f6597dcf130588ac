/-! THE PARSER: readLine, findWanted -/
theorem stC.kept {ip : Nat} {T : List Int32} {M : Nat → Nat → Int32} {J : Nat → Nat → Int64} {x y : px} {L : pL} {A : List act6} (h : stC ip T M J (x, L, A)) (h13 : 13 < ip) (hxy : y.2.1 = 0 → x.2.1 = 0) (ho : okS T (y, L, A)) : stC ip T (pm M y) J (y, L, A) := by
  refine ⟨pm_I _ _, h.2.1.pm y, ho, h.2.2.2.1, fun z => ?_⟩
  obtain ⟨a1, a2, a3, a4⟩ := h.2.2.2.2 (hxy z)
  refine ⟨⟨by rw [pm_o (by omega)]; exact a1.1, fun j hj => ⟨(a1.2 j hj).1, by rw [pm_c (by decide)]; exact (a1.2 j hj).2⟩⟩, ⟨by rw [pm_c (by omega)]; exact a2.1, fun k hk => ?_⟩, a3, a4⟩
  rw [pm_c (by omega), pm_c (by omega), pm_c (by omega), pm_c (by omega), pm_c (by decide)]
  exact a2.2 k hk
theorem t_take_0 {T : List Int32} {k : Int32} {x : px} (h : (t_take T k x).2.1 = 0) : x.2.1 = 0 := Classical.byContradiction (fun z => by rw [t_take_ne z] at h; exact z h)
theorem b2i_more (T : List Int32) (x : px) : (if x.2.1 = 0 then (if tK T x.1 = 5 then (1 : Int32) else 0) else 0) = b2i (t_more T x) := by
  unfold t_more b2i
  by_cases h0 : x.2.1 = 0
  · by_cases h5 : tK T x.1 = 5
    · rw [if_pos h0, if_pos h5, if_pos (decide_eq_true ⟨h0, h5⟩)]
    · rw [if_pos h0, if_neg h5, if_neg (fun z => h5 (of_decide_eq_true z).2)]
  · rw [if_neg h0, if_neg (fun z => h0 (of_decide_eq_true z).1)]

set_option maxHeartbeats 4000000 in
set_option maxRecDepth 100000 in
theorem c_X1_readLine {l : Launch} {D : va_G} {w : gw} {M : Nat → Nat → Int32} {J : Nat → Nat → Int64} {R : Nat → Nat → Option Nat} (hw : w.1 = 166) (hR : LayC R) {ip : Nat} (hip : isProg w R ip) (hi8 : R 4 8 = some ip) (h13 : 13 < ip) {T : List Int32} (hX : okX T) {x : px} {L : pL} {A : List act6} (hs : stC ip T M J (x, L, A)) : Ct l yX1_readLine wsX1_readLine ({ frames := 4, cells := 0, slots := 0, locals := 86 } : Room) D w [.ref (w.2.1 4)] (M, J, R) (fun v u => v = some (.int (b2i (t_go T (x, L, A)))) ∧ u.2.2 = R ∧ stC ip T u.1 u.2.1 (t_line T (x, L, A)) ∧ pF ip M u.1 ∧ pJ J u.2.1) := by
  obtain ⟨ip_hi4, ip_k, ip_k1, ip_k2, ip_k3, ip_k4, ip_l1, ip_l2, ip_l3, ip_l4, ip_r0, ip_r1, ip_r2, ip_r3⟩ := id hip
  have ip_hi : ip < w.1 := by omega
  have ip_hi1 : ip + 1 < w.1 := by omega
  have ip_hi2 : ip + 2 < w.1 := by omega
  have ip_hi3 : ip + 3 < w.1 := by omega
  obtain ⟨hp, hTb, hoS, hJ, hgd⟩ := id hs
  dsimp only at hp hgd
  obtain ⟨hat, hfk, hfp⟩ := id hp
  have hl : live T x.1 := hoS.1
  have hn := live_le hX.1 hl
  have en := hTb _ hl
  refine Cg.of (own := RX1) (cc := cX1_readLine) (maxL := 2) (ret := (some .boolean)) 1 (by decide) rfl rfl (Nat.le_of_ble_eq_true rfl) (fun X C hts V Rr => ?_)
  have F1 : FW X 1 := fun q h => hts q (List.mem_cons_of_mem _ (List.mem_append_left _ (List.mem_append_left _ (List.mem_append_right _ h))))
  have F5 : FW X 5 := fun q h => hts q (List.mem_cons_of_mem _ (List.mem_append_left _ (List.mem_append_right _ h)))
  have F2 : FW X 2 := fun q h => hts q (List.mem_cons_of_mem _ (List.mem_append_right _ h))
  show Gj X 0 0 w M J R 0 [some (.ref (w.2.1 4)), none] []
  obtain ⟨k1, k2, k3⟩ := t_l1_ok (T := T) (s := (x, L, A)) hl hoS.2.1
  have kl := live_le hX.1 k1
  obtain ⟨m1, m2⟩ : live T (t_l2 T (x, L, A)).1.1 ∧ (t_l2 T (x, L, A)).2.length ≤ 80 := t_mid_ok (A := A) k1 hoS.2.2
  have ml := live_le hX.1 m1
  have t51 : ∀ n M0 J0, stC ip T M0 J0 ((t_l2 T (x, L, A)).1, (t_l1 T (x, L, A)).2, (t_l2 T (x, L, A)).2) → pF ip M M0 → pJ J J0 → Gj X 0 0 w M0 J0 R 51 [some (.ref (w.2.1 4)), some (.int (nI n))] [] := by
    intro n M0 J0 q1 q2 q3
    have en2 := q1.2.1 _ m1
    refine g_aload_n C dX1_readLine_51 rfl ?_
    refine g_geti (v := (t_l2 T (x, L, A)).1.2.1) C F1 (by rw [hw]; decide) rfl (by decide) 9 (by decide) rfl (hts (.fieldLink RX1 49 "FallBench$Parser" "faultKind" "I") (by decide +kernel)) rfl q1.1.2.1 dX1_readLine_52 ?_
    refine g_if_ne (tgt := 69) C dX1_readLine_55 (by decide) (fun c55 => ?_) (fun c55 => ?_)
    · refine g_aload_n C dX1_readLine_69 rfl ?_
      refine g_iconst (v := 5) C dX1_readLine_70 (by decide) ?_
      refine g_callVf C hts V (i := 4) (gX1_readLine_X1_take) rfl hdX1_take (by decide) (Cf.to (c_X1_take (k := 5) hw hR hX q1.1 m1 q1.2.1 (by decide) (by decide)) (congrArg (fun z => some (Value.int z)) (b2i_more T _)) rfl) (by rw [hw]; decide) rfl (by decide) rfl rfl (Nat.le_of_ble_eq_true rfl) dX1_readLine_71 ?_
      exact g_zret C Rr (by rcases (t_more T (t_l2 T (x, L, A)).1) with _ | _ <;> rfl) ⟨rfl, ⟨rfl, rfl, by rw [t_line, t_fin, if_neg (fun z => c55 z.1)]; exact q1.kept h13 t_take_0 ⟨live_take m1 (by decide) (by decide), k2, m2⟩, q2.tr (pF.pm ip _), q3⟩⟩ dX1_readLine_74
    · refine g_aload_n C dX1_readLine_58 rfl ?_
      refine g_callVf C hts V (i := 4) (gX1_readLine_X1_kindOfToken) rfl hdX1_kindOfToken (by decide) (Cf.to (c_X1_kindOfToken hw hR q1.1.1 ml) (congrArg (fun z => some (Value.int z)) en2.1) rfl) (by rw [hw]; decide) rfl (by decide) rfl rfl (Nat.le_of_ble_eq_true rfl) dX1_readLine_59 ?_
      refine g_bipush (v := 6) C dX1_readLine_62 (by decide) ?_
      refine g_icmp_ne (tgt := 69) C dX1_readLine_64 (by decide) (fun c64 => ?_) (fun c64 => ?_)
      · refine g_aload_n C dX1_readLine_69 rfl ?_
        refine g_iconst (v := 5) C dX1_readLine_70 (by decide) ?_
        refine g_callVf C hts V (i := 4) (gX1_readLine_X1_take) rfl hdX1_take (by decide) (Cf.to (c_X1_take (k := 5) hw hR hX q1.1 m1 q1.2.1 (by decide) (by decide)) (congrArg (fun z => some (Value.int z)) (b2i_more T _)) rfl) (by rw [hw]; decide) rfl (by decide) rfl rfl (Nat.le_of_ble_eq_true rfl) dX1_readLine_71 ?_
        exact g_zret C Rr (by rcases (t_more T (t_l2 T (x, L, A)).1) with _ | _ <;> rfl) ⟨rfl, ⟨rfl, rfl, by rw [t_line, t_fin, if_neg (fun z => c64 z.2)]; exact q1.kept h13 t_take_0 ⟨live_take m1 (by decide) (by decide), k2, m2⟩, q2.tr (pF.pm ip _), q3⟩⟩ dX1_readLine_74
      · refine g_iconst (v := 0) C dX1_readLine_67 (by decide) ?_
        exact g_zret C Rr rfl ⟨rfl, ⟨by rw [t_go, t_more, decide_eq_false (fun z => by rw [c64] at z; exact absurd z.2 (by decide))]; rfl, rfl, by rw [t_line, t_fin, if_pos ⟨c55, c64⟩]; exact q1, q2, q3⟩⟩ dX1_readLine_68
  have t32 : ∀ n M0 J0, stC ip T M0 J0 ((t_l1 T (x, L, A)).1, (t_l1 T (x, L, A)).2, A) → pF ip M M0 → pJ J J0 → Gj X 0 0 w M0 J0 R 32 [some (.ref (w.2.1 4)), some (.int (nI n))] [] := by
    intro n M0 J0 q1 q2 q3
    have en1 := q1.2.1 _ k1
    refine g_aload_n C dX1_readLine_32 rfl ?_
    refine g_geti (v := (t_l1 T (x, L, A)).1.2.1) C F1 (by rw [hw]; decide) rfl (by decide) 9 (by decide) rfl (hts (.fieldLink RX1 49 "FallBench$Parser" "faultKind" "I") (by decide +kernel)) rfl q1.1.2.1 dX1_readLine_33 ?_
    refine g_if_ne (tgt := 51) C dX1_readLine_36 (by decide) (fun c36 => ?_) (fun c36 => ?_)
    · exact t51 n M0 J0 (by rw [show t_l2 T (x, L, A) = ((t_l1 T (x, L, A)).1, A) from if_neg (fun z => c36 z.1)]; exact q1) q2 q3
    · refine g_aload_n C dX1_readLine_39 rfl ?_
      refine g_callVf C hts V (i := 4) (gX1_readLine_X1_kindOfToken) rfl hdX1_kindOfToken (by decide) (Cf.to (c_X1_kindOfToken hw hR q1.1.1 kl) (congrArg (fun z => some (Value.int z)) en1.1) rfl) (by rw [hw]; decide) rfl (by decide) rfl rfl (Nat.le_of_ble_eq_true rfl) dX1_readLine_40 ?_
      refine g_iconst (v := 1) C dX1_readLine_43 (by decide) ?_
      refine g_icmp_ne (tgt := 51) C dX1_readLine_44 (by decide) (fun c44 => ?_) (fun c44 => ?_)
      · exact t51 n M0 J0 (by rw [show t_l2 T (x, L, A) = ((t_l1 T (x, L, A)).1, A) from if_neg (fun z => c44 z.2)]; exact q1) q2 q3
      · have hne : ¬ kwd (tW T (t_l1 T (x, L, A)).1.1) = -1 := fun z => k3 ⟨c36, c44, z⟩
        have hkk : ∃ kk, kk < 14 ∧ kwd (tW T (t_l1 T (x, L, A)).1.1) = nI kk := by
          rcases kwd_cases (tW T (t_l1 T (x, L, A)).1.1) with z | ⟨k, z1, z2, z3⟩
          · exact absurd z.1 hne
          · exact ⟨k, z1, z2⟩
        obtain ⟨kk, hk14, hkk⟩ := hkk
        refine g_aload_n C dX1_readLine_47 rfl ?_
        refine g_callVt C hts V (i := 4) (gX1_readLine_X1_readAct) rfl hdX1_readAct (by decide) (c_X1_readAct hw hR hip hi8 h13 hX q1 c36 c44 hk14 hkk) (by rw [hw]; decide) rfl (by decide) rfl rfl (Nat.le_of_ble_eq_true rfl) dX1_readLine_48 (fun v M1 J1 R1 h => ?_)
        obtain ⟨h0, hR1, hst, hF1, hJ1⟩ := h
        subst h0
        have hR1 := Eq.symm hR1
        subst hR1
        dsimp only at hst hF1 hJ1
        exact t51 n _ _ hst (q2.tr hF1) (q3.tr hJ1)
  have loop : ∀ f n M0 J0 y L1, n + f = 21 → stC ip T M0 J0 (y, L1, A) → pF ip M M0 → pJ J J0 → t_labs T A.length f (y, L1) = t_l1 T (x, L, A) → Gj X 0 0 w M0 J0 R 2 [some (.ref (w.2.1 4)), some (.int (nI n))] [] := by
    intro f
    induction f with
    | zero =>
      intro n M0 J0 y L1 hn1 q1 q2 q3 q4
      obtain rfl : n = 21 := by omega
      refine g_iload_n C dX1_readLine_2 rfl ?_
      refine g_bipush (v := 20) C dX1_readLine_3 (by decide) ?_
      refine g_icmp_gt (tgt := 32) C dX1_readLine_5 (by decide) (fun c5 => ?_) (fun c5 => absurd c5 (not_not_intro (by decide)))
      exact t32 21 M0 J0 (by rw [← q4]; exact q1) q2 q3
    | succ f ih =>
      intro n M0 J0 y L1 hn1 q1 q2 q3 q4
      have hly : live T y.1 := q1.2.2.1.1
      have hny := live_le hX.1 hly
      have eny := q1.2.1 _ hly
      refine g_iload_n C dX1_readLine_2 rfl ?_
      refine g_bipush (v := 20) C dX1_readLine_3 (by decide) ?_
      refine g_icmp_gt (tgt := 32) C dX1_readLine_5 (by decide) (fun c5 => absurd c5 (fun z => absurd ((nI_ltI (a := 20) (b := n) (by decide) (by omega)).mp z) (by omega))) (fun c5 => ?_)
      refine g_aload_n C dX1_readLine_8 rfl ?_
      refine g_geti (v := y.2.1) C F1 (by rw [hw]; decide) rfl (by decide) 9 (by decide) rfl (hts (.fieldLink RX1 49 "FallBench$Parser" "faultKind" "I") (by decide +kernel)) rfl q1.1.2.1 dX1_readLine_9 ?_
      refine g_if_ne (tgt := 32) C dX1_readLine_12 (by decide) (fun c12 => ?_) (fun c12 => ?_)
      · exact t32 n M0 J0 (by rw [← q4]; unfold t_labs; rw [if_neg (fun z => c12 z.1)]; exact q1) q2 q3
      · refine g_aload_n C dX1_readLine_15 rfl ?_
        refine g_callVf C hts V (i := 4) (gX1_readLine_X1_labelIsNext) rfl hdX1_labelIsNext (by decide) (Cf.to (c_X1_labelIsNext hw hR q1.1.1 hny) (congrArg (fun z => some (Value.int z)) (lab_is q1.2.2.2.1 eny)) rfl) (by rw [hw]; decide) rfl (by decide) rfl rfl (Nat.le_of_ble_eq_true rfl) dX1_readLine_16 ?_
        refine g_if_eq (tgt := 32) C dX1_readLine_19 (by decide) (fun c19 => ?_) (fun c19 => ?_)
        · exact t32 n M0 J0 (by rw [← q4]; unfold t_labs; rw [if_neg (fun z => absurd (c19.symm.trans (if_pos z.2)) (by decide))]; exact q1) q2 q3
        · have hil : isLab T y.1 := Classical.byContradiction (fun z => c19 (if_neg z))
          refine g_aload_n C dX1_readLine_22 rfl ?_
          refine g_callVt C hts V (i := 4) (gX1_readLine_X1_readLabel) rfl hdX1_readLabel (by decide) (c_X1_readLabel hw hR hip hi8 h13 hX q1 c12 hil) (by rw [hw]; decide) rfl (by decide) rfl rfl (Nat.le_of_ble_eq_true rfl) dX1_readLine_23 (fun v M1 J1 R1 h => ?_)
          obtain ⟨h0, hR1, hst, hF1, hJ1⟩ := h
          subst h0
          have hR1 := Eq.symm hR1
          subst hR1
          dsimp only at hst hF1 hJ1
          refine g_iinc (v := nI (n + 1)) C V.2.1 dX1_readLine_26 rfl (nI_succ n).symm (by decide) rfl ?_
          refine g_goto (tgt := 2) C dX1_readLine_29 (by decide) ?_
          exact ih (n + 1) _ _ _ _ (by omega) hst (q2.tr hF1) (q3.tr hJ1) (by rw [← q4]; exact (if_pos ⟨c12, hil⟩).symm)
  refine g_iconst (v := 0) C dX1_readLine_0 (by decide) ?_
  refine g_istore_n C V.2.1 dX1_readLine_1 (by decide) rfl ?_
  exact loop 21 0 M J x L (by decide) hs (pF.rf ip M) (pJ.rf J) rfl

/-- what findWanted leaves -/
def wanP (ip : Nat) (M : Nat → Nat → Int32) (x : px) (L : pL) (A : List act6) (u : Nat → Nat → Int32) : Prop := (∀ k, hfd (noL L A) A.length = some k → u 4 9 = 4 ∧ u 4 10 = (A.getD k dA).2.2) ∧ (hfd (noL L A) A.length = none → u 4 9 = 0 ∧ u 4 10 = x.2.2 ∧ progIs u ip (A.map (rs L))) ∧ pF ip M u
theorem map_getD (L : pL) (A : List act6) {k : Nat} (h : k < A.length) : (A.map (rs L)).getD k (0, 0, 0, 0) = rs L (A.getD k dA) := by
  simp only [List.getD]; rw [List.getElem?_map, List.getElem?_eq_getElem h]; rfl

set_option maxHeartbeats 4000000 in
set_option maxRecDepth 100000 in
theorem c_X1_findWanted {l : Launch} {D : va_G} {w : gw} {M : Nat → Nat → Int32} {J : Nat → Nat → Int64} {R : Nat → Nat → Option Nat} (hw : w.1 = 166) (hR : LayC R) {ip : Nat} (hip : isProg w R ip) (hi8 : R 4 8 = some ip) (h13 : 13 < ip) {T : List Int32} (hX : okX T) {x : px} {L : pL} {A : List act6} (hs : stC ip T M J (x, L, A)) (h0 : x.2.1 = 0) : Ct l yX1_findWanted wsX1_findWanted ({ frames := 1, cells := 0, slots := 0, locals := 23 } : Room) D w [.ref (w.2.1 4)] (M, J, R) (fun v u => v = none ∧ u.2.2 = R ∧ u.2.1 = J ∧ wanP ip M x L A u.1) := by
  obtain ⟨ip_hi4, ip_k, ip_k1, ip_k2, ip_k3, ip_k4, ip_l1, ip_l2, ip_l3, ip_l4, ip_r0, ip_r1, ip_r2, ip_r3⟩ := id hip
  have ip_hi : ip < w.1 := by omega
  have ip_hi1 : ip + 1 < w.1 := by omega
  have ip_hi2 : ip + 2 < w.1 := by omega
  have ip_hi3 : ip + 3 < w.1 := by omega
  obtain ⟨hp, hTb, hoS, hJ, hgd⟩ := id hs
  dsimp only at hp hgd
  obtain ⟨hat, hfk, hfp⟩ := id hp
  have hl : live T x.1 := hoS.1
  have hn := live_le hX.1 hl
  have en := hTb _ hl
  refine Cg.of (own := RX1) (cc := cX1_findWanted) (maxL := 3) (ret := none) 2 (by decide) rfl rfl (Nat.le_of_ble_eq_true rfl) (fun X C hts V Rr => ?_)
  have F1 : FW X 1 := fun q h => hts q (List.mem_cons_of_mem _ (List.mem_append_left _ (List.mem_append_right _ h)))
  have F2 : FW X 2 := fun q h => hts q (List.mem_cons_of_mem _ (List.mem_append_right _ h))
  show Gj X 0 0 w M J R 0 [some (.ref (w.2.1 4)), none, none] []
  obtain ⟨hLb, hAc, hoL, hoA⟩ := hgd h0
  have hA80 : A.length ≤ 80 := hoS.2.2
  have hL20 : L.length ≤ 20 := hoS.2.1
  have fin : ∀ k z M0, ¬ M0 4 9 = 0 → M0 ip 4 = nI A.length → wanP ip M x L A M0 → Gj X 0 0 w M0 J R 2 [some (.ref (w.2.1 4)), some (.int (nI k)), z] [] := by
    intro k z M0 q1 q2 q3
    refine g_iload_n C dX1_findWanted_2 rfl ?_
    refine g_aload_n C dX1_findWanted_3 rfl ?_
    refine g_getr (j := ip) C F1 (by rw [hw]; decide) rfl (by decide) 8 (by decide) rfl (hts (.fieldLink RX1 45 "FallBench$Parser" "into" "LFallBench$Program;") (by decide +kernel)) rfl hi8 dX1_findWanted_4 ?_
    refine g_geti (v := nI A.length) C F2 ip_hi ip_k (by decide) 4 (by decide) rfl (hts (.fieldLink RX1 71 "FallBench$Program" "count" "I") (by decide +kernel)) rfl q2 dX1_findWanted_7 ?_
    refine g_icmp_ge (tgt := 90) C dX1_findWanted_10 (by decide) (fun c10 => ?_) (fun c10 => ?_)
    · exact g_vret C Rr ⟨rfl, ⟨rfl, rfl, rfl, q3⟩⟩ dX1_findWanted_90
    · refine g_aload_n C dX1_findWanted_13 rfl ?_
      refine g_geti C F1 (by rw [hw]; decide) rfl (by decide) 9 (by decide) rfl (hts (.fieldLink RX1 49 "FallBench$Parser" "faultKind" "I") (by decide +kernel)) rfl rfl dX1_findWanted_14 ?_
      refine g_if_ne (tgt := 90) C dX1_findWanted_17 (by decide) (fun c17 => ?_) (fun c17 => absurd c17 q1)
      exact g_vret C Rr ⟨rfl, ⟨rfl, rfl, rfl, q3⟩⟩ dX1_findWanted_90
  have loop : ∀ dd k z M0, k + dd = A.length → (∀ a b, ¬ (a = ip + 4 ∧ b < k) → M0 a b = M a b) → (∀ b, b < k → M0 (ip + 4) b = rsN L (A.getD b dA)) → hfd (noL L A) k = none → Gj X 0 0 w M0 J R 2 [some (.ref (w.2.1 4)), some (.int (nI k)), z] [] := by
    intro dd
    induction dd with
    | zero =>
      intro k z M0 hk q1 q2 q3
      obtain rfl : k = A.length := by omega
      have w1 : wanP ip M x L A M0 := by
        refine ⟨fun k hk => (by rw [q3] at hk; cases hk), fun _ => ⟨(q1 4 9 (by omega)).trans (hfk.trans h0), (q1 4 10 (by omega)).trans hfp, ?_⟩, fun a b _ _ _ y4 => q1 a b (by omega)⟩
        refine ⟨by rw [List.length_map]; exact hA80, by rw [q1 ip 4 (by omega), List.length_map]; exact hAc.1, fun k hk => ?_⟩
        rw [List.length_map] at hk
        rw [map_getD L A hk, q1 (ip + 1) k (by omega), q1 (ip + 2) k (by omega), q1 (ip + 3) k (by omega), q2 k hk]
        have e := (hAc.2 k hk).1
        unfold rs
        rw [← e]
      refine g_iload_n C dX1_findWanted_2 rfl ?_
      refine g_aload_n C dX1_findWanted_3 rfl ?_
      refine g_getr (j := ip) C F1 (by rw [hw]; decide) rfl (by decide) 8 (by decide) rfl (hts (.fieldLink RX1 45 "FallBench$Parser" "into" "LFallBench$Program;") (by decide +kernel)) rfl hi8 dX1_findWanted_4 ?_
      refine g_geti (v := nI A.length) C F2 ip_hi ip_k (by decide) 4 (by decide) rfl (hts (.fieldLink RX1 71 "FallBench$Program" "count" "I") (by decide +kernel)) rfl ((q1 ip 4 (by omega)).trans hAc.1) dX1_findWanted_7 ?_
      refine g_icmp_ge (tgt := 90) C dX1_findWanted_10 (by decide) (fun c10 => ?_) (fun c10 => absurd c10 (not_not_intro (nI_le (Nat.le_refl _) (by omega))))
      exact g_vret C Rr ⟨rfl, ⟨rfl, rfl, rfl, w1⟩⟩ dX1_findWanted_90
    | succ dd ih =>
      intro k z M0 hk q1 q2 q3
      have hAk := hAc.2 k (by omega)
      have e1 : M0 (ip + 1) k = (A.getD k dA).1.1 := (q1 _ _ (by omega)).trans (congrArg Prod.fst hAk.1)
      have e4 : M (ip + 4) k = (A.getD k dA).1.2.2.2 := congrArg (fun y => y.2.2.2) hAk.1
      have e49 : M0 4 9 = 0 := (q1 4 9 (by omega)).trans (hfk.trans h0)
      refine g_iload_n C dX1_findWanted_2 rfl ?_
      refine g_aload_n C dX1_findWanted_3 rfl ?_
      refine g_getr (j := ip) C F1 (by rw [hw]; decide) rfl (by decide) 8 (by decide) rfl (hts (.fieldLink RX1 45 "FallBench$Parser" "into" "LFallBench$Program;") (by decide +kernel)) rfl hi8 dX1_findWanted_4 ?_
      refine g_geti (v := nI A.length) C F2 ip_hi ip_k (by decide) 4 (by decide) rfl (hts (.fieldLink RX1 71 "FallBench$Program" "count" "I") (by decide +kernel)) rfl ((q1 ip 4 (by omega)).trans hAc.1) dX1_findWanted_7 ?_
      refine g_icmp_ge (tgt := 90) C dX1_findWanted_10 (by decide) (fun c10 => absurd c10 (nI_ge (a := k) (b := A.length) (by omega) (by omega))) (fun c10 => ?_)
      refine g_aload_n C dX1_findWanted_13 rfl ?_
      refine g_geti (v := 0) C F1 (by rw [hw]; decide) rfl (by decide) 9 (by decide) rfl (hts (.fieldLink RX1 49 "FallBench$Parser" "faultKind" "I") (by decide +kernel)) rfl e49 dX1_findWanted_14 ?_
      refine g_if_ne (tgt := 90) C dX1_findWanted_17 (by decide) (fun c17 => absurd c17 (not_not_intro rfl)) (fun c17 => ?_)
      refine g_aload_n C dX1_findWanted_20 rfl ?_
      refine g_getr (j := ip) C F1 (by rw [hw]; decide) rfl (by decide) 8 (by decide) rfl (hts (.fieldLink RX1 45 "FallBench$Parser" "into" "LFallBench$Program;") (by decide +kernel)) rfl hi8 dX1_findWanted_21 ?_
      refine g_getr (j := (ip + 1)) C F2 ip_hi ip_k (by decide) 0 (by decide) rfl (hts (.fieldLink RX1 115 "FallBench$Program" "kinds" "[I") (by decide +kernel)) rfl ip_r0 dX1_findWanted_24 ?_
      refine g_iload_n C dX1_findWanted_27 rfl ?_
      refine g_iald (v := (A.getD k dA).1.1) C ip_hi1 ip_k1 (by rw [ip_l1]; exact vp_in_nI (by omega) (by decide)) (by rw [nI_clamp (show k < 2 ^ 31 by omega)]; exact e1) dX1_findWanted_28 ?_
      refine g_callSf C hts V (gX1_findWanted_X1_goesToLabel) rfl hdX1_goesToLabel (by decide) c_X1_goesToLabel rfl rfl (Nat.le_of_ble_eq_true rfl) dX1_findWanted_29 ?_
      refine g_if_eq (tgt := 84) C dX1_findWanted_32 (by decide) (fun c32 => ?_) (fun c32 => ?_)
      · refine g_iinc (v := nI (k + 1)) C V.2.1 dX1_findWanted_84 rfl (nI_succ k).symm (by decide) rfl ?_
        refine g_goto (tgt := 2) C dX1_findWanted_87 (by decide) ?_
        exact ih (k + 1) _ M0 (by omega) (fun a b y => q1 a b (by omega)) (fun b hb => by
          rcases Nat.lt_or_ge b k with g | g
          · exact q2 b g
          · obtain rfl : b = k := by omega
            rw [q1 _ _ (by omega), e4, rsN, if_pos c32]) (by rw [hfd_s q3, if_neg (fun y => y.1 c32)])
      · refine g_aload_n C dX1_findWanted_35 rfl ?_
        refine g_aload_n C dX1_findWanted_36 rfl ?_
        refine g_getr (j := 12) C F1 (by rw [hw]; decide) rfl (by decide) 4 (by decide) rfl (hts (.fieldLink RX1 29 "FallBench$Parser" "wanted" "[J") (by decide +kernel)) rfl (hR (4, 4, 12) (by decide)) dX1_findWanted_37 ?_
        refine g_iload_n C dX1_findWanted_40 rfl ?_
        refine g_lald (v := J 12 k) C (by rw [hw]; decide) rfl (vp_in_nI (N := 80) (by omega) (by decide)) (by rw [nI_clamp (show k < 2 ^ 31 by omega)]) dX1_findWanted_41 ?_
        refine g_callVf C hts V (i := 4) (gX1_findWanted_X1_labelNumber) rfl hdX1_labelNumber (by decide) (Cf.to (c_X1_labelNumber (c := L.length) hw hR ((q1 4 6 (by omega)).trans hLb.1) hL20) (congrArg (fun z => some (Value.int z)) (show _ = optI (lfd L (A.getD k dA).2.1) by rw [(hAk.2 c32).1, lfd_is hLb hoL (hoA k (by omega) c32)])) rfl) (by rw [hw]; decide) rfl (by decide) rfl rfl (Nat.le_of_ble_eq_true rfl) dX1_findWanted_42 ?_
        refine g_istore_n C V.2.1 dX1_findWanted_45 (by decide) rfl ?_
        refine g_iload_n C dX1_findWanted_46 rfl ?_
        refine g_iconst (v := (-1)) C dX1_findWanted_47 (by decide) ?_
        refine g_icmp_ne (tgt := 69) C dX1_findWanted_48 (by decide) (fun c48 => ?_) (fun c48 => ?_)
        · have hf : ∃ h, h < L.length ∧ lfd L (A.getD k dA).2.1 = some h := by
            rcases hf : lfd L (A.getD k dA).2.1 with _ | h
            · rw [hf] at c48; exact absurd rfl c48
            · exact ⟨h, (hfd_spec hf).1, rfl⟩
          obtain ⟨h, hh, hf⟩ := hf
          rw [hf]
          show Gj X 0 0 w M0 J R 69 [some (.ref (w.2.1 4)), some (.int (nI k)), some (.int (nI h))] []
          refine g_aload_n C dX1_findWanted_69 rfl ?_
          refine g_getr (j := ip) C F1 (by rw [hw]; decide) rfl (by decide) 8 (by decide) rfl (hts (.fieldLink RX1 45 "FallBench$Parser" "into" "LFallBench$Program;") (by decide +kernel)) rfl hi8 dX1_findWanted_70 ?_
          refine g_getr (j := (ip + 4)) C F2 ip_hi ip_k (by decide) 3 (by decide) rfl (hts (.fieldLink RX1 131 "FallBench$Program" "numbers" "[I") (by decide +kernel)) rfl ip_r3 dX1_findWanted_73 ?_
          refine g_iload_n C dX1_findWanted_76 rfl ?_
          refine g_aload_n C dX1_findWanted_77 rfl ?_
          refine g_getr (j := 11) C F1 (by rw [hw]; decide) rfl (by decide) 3 (by decide) rfl (hts (.fieldLink RX1 25 "FallBench$Parser" "labelActs" "[I") (by decide +kernel)) rfl (hR (4, 3, 11) (by decide)) dX1_findWanted_78 ?_
          refine g_iload_n C dX1_findWanted_81 rfl ?_
          refine g_iald (v := nI (L.getD h ([], 0)).2) C (by rw [hw]; decide) rfl (vp_in_nI (N := 20) (by omega) (by decide)) (by rw [nI_clamp (show h < 2 ^ 31 by omega), q1 11 h (by omega)]; exact (hLb.2 h hh).2) dX1_findWanted_82 ?_
          refine g_iast C ip_hi4 ip_k4 (by rw [ip_l4]; exact vp_in_nI (by omega) (by decide)) dX1_findWanted_83 ?_
          refine g_iinc (v := nI (k + 1)) C V.2.1 dX1_findWanted_84 rfl (nI_succ k).symm (by decide) rfl ?_
          refine g_goto (tgt := 2) C dX1_findWanted_87 (by decide) ?_
          rw [nI_clamp (show k < 2 ^ 31 by omega)]
          exact ih (k + 1) _ _ (by omega) (fun a b y => by rw [up2_nb (fun q => y ⟨q.1, by omega⟩)]; exact q1 a b (by omega)) (fun b hb => by
            rcases Nat.lt_or_ge b k with g | g
            · rw [up2_n2 _ _ (by omega)]; exact q2 b g
            · obtain rfl : b = k := by omega
              rw [up2_eq, rsN, if_neg c32, hf]; rfl) (by rw [hfd_s q3, if_neg (fun y => absurd (hf.symm.trans y.2) (by intro q; cases q))])
        · refine g_aload_n C dX1_findWanted_51 rfl ?_
          refine g_iconst (v := 4) C dX1_findWanted_52 (by decide) ?_
          refine g_puti C F1 (by rw [hw]; decide) rfl (by decide) 9 (by decide) rfl (hts (.fieldLink RX1 49 "FallBench$Parser" "faultKind" "I") (by decide +kernel)) rfl rfl rfl rfl dX1_findWanted_53 ?_
          refine g_aload_n C dX1_findWanted_56 rfl ?_
          refine g_aload_n C dX1_findWanted_57 rfl ?_
          refine g_getr (j := 13) C F1 (by rw [hw]; decide) rfl (by decide) 5 (by decide) rfl (hts (.fieldLink RX1 32 "FallBench$Parser" "wantedPlaces" "[I") (by decide +kernel)) rfl (hR (4, 5, 13) (by decide)) dX1_findWanted_58 ?_
          refine g_iload_n C dX1_findWanted_61 rfl ?_
          refine g_iald (v := (A.getD k dA).2.2) C (by rw [hw]; decide) rfl (vp_in_nI (N := 80) (by omega) (by decide)) (by rw [nI_clamp (by omega), up2_n1 _ _ (by decide), q1 13 k (by omega)]; exact (hAk.2 c32).2) dX1_findWanted_62 ?_
          refine g_puti C F1 (by rw [hw]; decide) rfl (by decide) 10 (by decide) rfl (hts (.fieldLink RX1 52 "FallBench$Parser" "faultPlace" "I") (by decide +kernel)) rfl rfl rfl rfl dX1_findWanted_63 ?_
          refine g_goto (tgt := 84) C dX1_findWanted_66 (by decide) ?_
          refine g_iinc (v := nI (k + 1)) C V.2.1 dX1_findWanted_84 rfl (nI_succ k).symm (by decide) rfl ?_
          refine g_goto (tgt := 2) C dX1_findWanted_87 (by decide) ?_
          have hno : lfd L (A.getD k dA).2.1 = none := by
            rcases hf : lfd L (A.getD k dA).2.1 with _ | h
            · rfl
            · rw [hf] at c48; exact absurd c48 (nm1 (by have := (hfd_spec hf).1; omega))
          have hfd1 : hfd (noL L A) A.length = some k := hfd_up (n := k + 1) (by rw [hfd_s q3, if_pos ⟨c32, hno⟩]) _ (by omega)
          refine fin (k + 1) _ _ (by rw [up2_n2 _ _ (by decide), up2_eq]; decide) (by rw [up2_n1 _ _ (by omega), up2_n1 _ _ (by omega)]; exact (q1 ip 4 (by omega)).trans hAc.1) ⟨fun j hj => ?_, fun hj => (by rw [hfd1] at hj; cases hj), fun a b y1 y2 y3 y4 => by rw [up2_nb (fun y => y1 ⟨y.1, by omega⟩), up2_nb (fun y => y1 ⟨y.1, by omega⟩)]; exact q1 a b (by omega)⟩
          rw [hfd1] at hj
          cases hj
          exact ⟨by rw [up2_n2 _ _ (by decide), up2_eq], up2_eq _ _ _ _⟩
  refine g_iconst (v := 0) C dX1_findWanted_0 (by decide) ?_
  refine g_istore_n C V.2.1 dX1_findWanted_1 (by decide) rfl ?_
  exact loop A.length 0 _ M (by omega) (fun _ _ _ => rfl) (fun b hb => absurd hb (Nat.not_lt_zero b)) rfl
