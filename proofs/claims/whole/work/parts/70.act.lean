/-! THE PARSER: readAct -/
set_option maxHeartbeats 4000000 in
set_option maxRecDepth 100000 in
theorem c_X1_readAct {l : Launch} {D : va_G} {w : gw} {M : Nat → Nat → Int32} {J : Nat → Nat → Int64} {R : Nat → Nat → Option Nat} (hw : w.1 = 166) (hR : LayC R) {ip : Nat} (hip : isProg w R ip) (hi8 : R 4 8 = some ip) (h13 : 13 < ip) {T : List Int32} (hX : okX T) {x : px} {L : pL} {A : List act6} (hs : stC ip T M J (x, L, A)) (h0 : x.2.1 = 0) (hw1 : tK T x.1 = 1) {kk : Nat} (hk14 : kk < 14) (hkk : kwd (tW T x.1) = nI kk) : Ct l yX1_readAct wsX1_readAct ({ frames := 3, cells := 0, slots := 0, locals := 64 } : Room) D w [.ref (w.2.1 4)] (M, J, R) (fun v u => v = none ∧ u.2.2 = R ∧ stC ip T u.1 u.2.1 ((t_mid T x A).1, L, (t_mid T x A).2) ∧ pF ip M u.1 ∧ pJ J u.2.1) := by
  obtain ⟨ip_hi4, ip_k, ip_k1, ip_k2, ip_k3, ip_k4, ip_l1, ip_l2, ip_l3, ip_l4, ip_r0, ip_r1, ip_r2, ip_r3⟩ := id hip
  have ip_hi : ip < w.1 := by omega
  have ip_hi1 : ip + 1 < w.1 := by omega
  have ip_hi2 : ip + 2 < w.1 := by omega
  have ip_hi3 : ip + 3 < w.1 := by omega
  obtain ⟨hp, hTb, hoS, hJ, hgd⟩ := id hs
  dsimp only at hp hgd
  obtain ⟨hat, hfk, hfp⟩ := id hp
  have hl : live T x.1 := hoS.1
  have hn := live_le hX.1 hl
  have en := hTb _ hl
  refine Cg.of (own := RX1) (cc := cX1_readAct) (maxL := 3) (ret := none) 2 (by decide) rfl rfl (Nat.le_of_ble_eq_true rfl) (fun X C hts V Rr => ?_)
  have F1 : FW X 1 := fun q h => hts q (List.mem_cons_of_mem _ (List.mem_append_left _ (List.mem_append_left _ (List.mem_append_right _ h))))
  have F5 : FW X 5 := fun q h => hts q (List.mem_cons_of_mem _ (List.mem_append_left _ (List.mem_append_right _ h)))
  have F2 : FW X 2 := fun q h => hts q (List.mem_cons_of_mem _ (List.mem_append_right _ h))
  show Gj X 0 0 w M J R 0 [some (.ref (w.2.1 4)), none, none] []
  obtain ⟨hLb, hAc, hoL, hoA⟩ := hgd h0
  have hW : okW (tW T x.1) := tW_ok hw1
  have hA80 : A.length ≤ 80 := hoS.2.2
  have e8 : J 8 x.1 = enc5 (tW T x.1) := en.2.2.1 hw1
  have l1 := live_take (T := T) (k := 1) hl (by decide) (by decide)
  have l2 : live T (a_x2 T (nI kk) (t_take T 1 x)).1 := live_x2 l1
  have l3 : live T (a_x3 T (nI kk) (a_x2 T (nI kk) (t_take T 1 x))).1 := live_x3 l2
  have l4 : live T (a_4 T (nI kk) (t_take T 1 x)).1 := live_4 l1
  have hoM := t_mid_ok (A := A) hl hA80
  have goal80 : A.length < 80 → Gj X 0 0 w (pm M (t_take T 1 x)) J R 48 [some (.ref (w.2.1 4)), some (.int (nI kk)), some (.int (nI A.length))] [] := by
    intro hc
    have hmid : t_mid T x A = ((t_act T (nI kk) (t_take T 1 x)).1, A ++ [(t_act T (nI kk) (t_take T 1 x)).2]) := by unfold t_mid; rw [if_pos ⟨h0, hw1⟩, if_neg (by omega), hkk]
    rw [hmid] at hoM
    have hb : ∀ i, ln i = 80 → vp_in (nI A.length) (ln i) := fun i hi => by rw [hi]; exact vp_in_nI hc (by decide)
    have tb : ∀ (M0 : Nat → Nat → Int32), (∀ y, M0 6 y = M 6 y) → (∀ y, M0 7 y = M 7 y) → tabC T M0 J := fun M0 q6 q7 => hTb.o q6 q7 (fun _ => rfl)
    have t147 : ∀ M0 J0, M0 ip 4 = nI A.length → stC ip T (up2 M0 ip 4 (nI A.length + 1)) J0 ((t_act T (nI kk) (t_take T 1 x)).1, L, A ++ [(t_act T (nI kk) (t_take T 1 x)).2]) → pF ip M (up2 M0 ip 4 (nI A.length + 1)) → pJ J J0 → Gj X 0 0 w M0 J0 R 147 [some (.ref (w.2.1 4)), some (.int (nI kk)), some (.int (nI A.length))] [] := by
      intro M0 J0 q1 q2 q3 q4
      refine g_aload_n C dX1_readAct_147 rfl ?_
      refine g_getr (j := ip) C F1 (by rw [hw]; decide) rfl (by decide) 8 (by decide) rfl (hts (.fieldLink RX1 45 "FallBench$Parser" "into" "LFallBench$Program;") (by decide +kernel)) rfl hi8 dX1_readAct_148 ?_
      refine g_dup C dX1_readAct_151 rfl ?_
      refine g_geti (v := nI A.length) C F2 ip_hi ip_k (by decide) 4 (by decide) rfl (hts (.fieldLink RX1 71 "FallBench$Program" "count" "I") (by decide +kernel)) rfl q1 dX1_readAct_152 ?_
      refine g_iconst (v := 1) C dX1_readAct_155 (by decide) ?_
      refine g_iadd C dX1_readAct_156 ?_
      refine g_puti C F2 ip_hi ip_k (by decide) 4 (by decide) rfl (hts (.fieldLink RX1 71 "FallBench$Program" "count" "I") (by decide +kernel)) rfl rfl rfl rfl dX1_readAct_157 ?_
      exact g_vret C Rr ⟨rfl, ⟨rfl, rfl, by rw [hmid]; exact q2, q3, q4⟩⟩ dX1_readAct_160
    have hTn : ∀ y, tabC T (pm (up2 (up2 (up2 (up2 M (ip + 1) A.length (nI kk)) (ip + 2) A.length (a_r T (nI kk) (t_take T 1 x))) (ip + 3) A.length (a_s T (nI kk) (a_x2 T (nI kk) (t_take T 1 x)))) (ip + 4) A.length (a_n T (nI kk) (a_x3 T (nI kk) (a_x2 T (nI kk) (t_take T 1 x))))) y) J := fun y => (tb (up2 (up2 (up2 (up2 M (ip + 1) A.length (nI kk)) (ip + 2) A.length (a_r T (nI kk) (t_take T 1 x))) (ip + 3) A.length (a_s T (nI kk) (a_x2 T (nI kk) (t_take T 1 x)))) (ip + 4) A.length (a_n T (nI kk) (a_x3 T (nI kk) (a_x2 T (nI kk) (t_take T 1 x))))) (fun y => by rw [up2_n1 _ _ (by omega), up2_n1 _ _ (by omega), up2_n1 _ _ (by omega), up2_n1 _ _ (by omega)]) (fun y => by rw [up2_n1 _ _ (by omega), up2_n1 _ _ (by omega), up2_n1 _ _ (by omega), up2_n1 _ _ (by omega)])).pm y
    have fr : ∀ (y : px) (v : Int32) (M5 : Nat → Nat → Int32), (∀ a b, a ≠ 13 → M5 a b = (up2 (up2 (up2 (up2 M (ip + 1) A.length (nI kk)) (ip + 2) A.length (a_r T (nI kk) (t_take T 1 x))) (ip + 3) A.length (a_s T (nI kk) (a_x2 T (nI kk) (t_take T 1 x)))) (ip + 4) A.length (a_n T (nI kk) (a_x3 T (nI kk) (a_x2 T (nI kk) (t_take T 1 x))))) a b) → pF ip M (up2 (pm M5 y) ip 4 v) := fun y v M5 q a b q1 q2 q3 q4 => by rw [up2_n1 _ _ (by omega), pm_o (fun z => q1 ⟨z.1, by omega⟩), q a b q3, up2_n1 _ _ (by omega), up2_n1 _ _ (by omega), up2_n1 _ _ (by omega), up2_n1 _ _ (by omega)]
    have fin : ∀ (y : px) (M5 : Nat → Nat → Int32) (J5 : Nat → Nat → Int64), y = (t_act T (nI kk) (t_take T 1 x)).1 → (∀ a b, a ≠ 13 → M5 a b = (up2 (up2 (up2 (up2 M (ip + 1) A.length (nI kk)) (ip + 2) A.length (a_r T (nI kk) (t_take T 1 x))) (ip + 3) A.length (a_s T (nI kk) (a_x2 T (nI kk) (t_take T 1 x)))) (ip + 4) A.length (a_n T (nI kk) (a_x3 T (nI kk) (a_x2 T (nI kk) (t_take T 1 x))))) a b) → (∀ k, k ≠ A.length → M5 13 k = M 13 k ∧ J5 12 k = J 12 k) → (∀ a b, a ≠ 12 → J5 a b = J a b) → (y.2.1 = 0 → ¬ goL (nI kk) = 0 → okW (tW T (a_4 T (nI kk) (t_take T 1 x)).1) ∧ J5 12 A.length = enc5 (tW T (a_4 T (nI kk) (t_take T 1 x)).1) ∧ M5 13 A.length = tP T (a_4 T (nI kk) (t_take T 1 x)).1) → stC ip T (up2 (pm M5 y) ip 4 (nI A.length + 1)) J5 ((t_act T (nI kk) (t_take T 1 x)).1, L, A ++ [(t_act T (nI kk) (t_take T 1 x)).2]) := by
      intro y M5 J5 hy q1 q2 q3 q4
      subst hy
      have o : ∀ a b, a ≠ ip → a ≠ 4 → up2 (pm M5 (t_act T (nI kk) (t_take T 1 x)).1) ip 4 (nI A.length + 1) a b = M5 a b := fun a b z1 z2 => by rw [up2_n1 _ _ z1, pm_c z2]
      have o4 : ∀ b, ¬ (b = 7 ∨ b = 9 ∨ b = 10) → up2 (pm M5 (t_act T (nI kk) (t_take T 1 x)).1) ip 4 (nI A.length + 1) 4 b = M 4 b := fun b z => by rw [up2_n1 _ _ (by omega), pm_o (fun q => z q.2), q1 4 b (by decide), up2_n1 _ _ (by omega), up2_n1 _ _ (by omega), up2_n1 _ _ (by omega), up2_n1 _ _ (by omega)]
      have n5 : ∀ a b, a ≠ 13 → ¬ (ip < a ∧ a ≤ ip + 4) → M5 a b = M a b := fun a b z1 z2 => by rw [q1 a b z1, up2_n1 _ _ (by omega), up2_n1 _ _ (by omega), up2_n1 _ _ (by omega), up2_n1 _ _ (by omega)]
      refine ⟨?_, hTb.o (fun y => by rw [o 6 y (by omega) (by decide)]; exact n5 6 y (by decide) (by omega)) (fun y => by rw [o 7 y (by omega) (by decide)]; exact n5 7 y (by decide) (by omega)) (fun y => q3 8 y (by decide)), ⟨hoM.1, hoS.2.1, hoM.2⟩, fun k hk => (q3 9 k (by decide)).trans (hJ k hk), fun hy0 => ⟨⟨?_, fun j hj => ?_⟩, ⟨?_, fun k hk => ?_⟩, hoL, ?_⟩⟩
      · have := pm_I M5 (t_act T (nI kk) (t_take T 1 x)).1
        exact ⟨by rw [up2_n1 _ _ (by omega)]; exact this.1, by rw [up2_n1 _ _ (by omega)]; exact this.2.1, by rw [up2_n1 _ _ (by omega)]; exact this.2.2⟩
      · rw [o4 6 (by decide)]; exact hLb.1
      · rw [q3 10 j (by decide), o 11 j (by omega) (by decide), n5 11 j (by decide) (by omega)]; exact hLb.2 j hj
      · rw [up2_eq, nI_p1]; dsimp only; rw [snoc_len]
      · dsimp only at hk ⊢
        rw [o _ _ (by omega) (by omega), o _ _ (by omega) (by omega), o _ _ (by omega) (by omega), o _ _ (by omega) (by omega), o 13 k (by omega) (by decide), q1 _ _ (by omega), q1 _ _ (by omega), q1 _ _ (by omega), q1 _ _ (by omega)]
        rw [snoc_len] at hk
        rcases Nat.lt_or_ge k A.length with g | g
        · rw [snoc_lt g]
          have e1 : (up2 (up2 (up2 (up2 M (ip + 1) A.length (nI kk)) (ip + 2) A.length (a_r T (nI kk) (t_take T 1 x))) (ip + 3) A.length (a_s T (nI kk) (a_x2 T (nI kk) (t_take T 1 x)))) (ip + 4) A.length (a_n T (nI kk) (a_x3 T (nI kk) (a_x2 T (nI kk) (t_take T 1 x))))) (ip + 1) k = M (ip + 1) k := by rw [up2_n2 _ _ (by omega), up2_n2 _ _ (by omega), up2_n2 _ _ (by omega), up2_n2 _ _ (by omega)]
          have e2 : (up2 (up2 (up2 (up2 M (ip + 1) A.length (nI kk)) (ip + 2) A.length (a_r T (nI kk) (t_take T 1 x))) (ip + 3) A.length (a_s T (nI kk) (a_x2 T (nI kk) (t_take T 1 x)))) (ip + 4) A.length (a_n T (nI kk) (a_x3 T (nI kk) (a_x2 T (nI kk) (t_take T 1 x))))) (ip + 2) k = M (ip + 2) k := by rw [up2_n2 _ _ (by omega), up2_n2 _ _ (by omega), up2_n2 _ _ (by omega), up2_n2 _ _ (by omega)]
          have e3 : (up2 (up2 (up2 (up2 M (ip + 1) A.length (nI kk)) (ip + 2) A.length (a_r T (nI kk) (t_take T 1 x))) (ip + 3) A.length (a_s T (nI kk) (a_x2 T (nI kk) (t_take T 1 x)))) (ip + 4) A.length (a_n T (nI kk) (a_x3 T (nI kk) (a_x2 T (nI kk) (t_take T 1 x))))) (ip + 3) k = M (ip + 3) k := by rw [up2_n2 _ _ (by omega), up2_n2 _ _ (by omega), up2_n2 _ _ (by omega), up2_n2 _ _ (by omega)]
          have e4 : (up2 (up2 (up2 (up2 M (ip + 1) A.length (nI kk)) (ip + 2) A.length (a_r T (nI kk) (t_take T 1 x))) (ip + 3) A.length (a_s T (nI kk) (a_x2 T (nI kk) (t_take T 1 x)))) (ip + 4) A.length (a_n T (nI kk) (a_x3 T (nI kk) (a_x2 T (nI kk) (t_take T 1 x))))) (ip + 4) k = M (ip + 4) k := by rw [up2_n2 _ _ (by omega), up2_n2 _ _ (by omega), up2_n2 _ _ (by omega), up2_n2 _ _ (by omega)]
          rw [e1, e2, e3, e4, (q2 k (by omega)).1, (q2 k (by omega)).2]
          exact hAc.2 k g
        · obtain rfl : k = A.length := by omega
          rw [snoc_eq rfl]
          have e1 : (up2 (up2 (up2 (up2 M (ip + 1) A.length (nI kk)) (ip + 2) A.length (a_r T (nI kk) (t_take T 1 x))) (ip + 3) A.length (a_s T (nI kk) (a_x2 T (nI kk) (t_take T 1 x)))) (ip + 4) A.length (a_n T (nI kk) (a_x3 T (nI kk) (a_x2 T (nI kk) (t_take T 1 x))))) (ip + 1) A.length = (nI kk) := by rw [up2_n1 _ _ (by omega), up2_n1 _ _ (by omega), up2_n1 _ _ (by omega), up2_eq]
          have e2 : (up2 (up2 (up2 (up2 M (ip + 1) A.length (nI kk)) (ip + 2) A.length (a_r T (nI kk) (t_take T 1 x))) (ip + 3) A.length (a_s T (nI kk) (a_x2 T (nI kk) (t_take T 1 x)))) (ip + 4) A.length (a_n T (nI kk) (a_x3 T (nI kk) (a_x2 T (nI kk) (t_take T 1 x))))) (ip + 2) A.length = (a_r T (nI kk) (t_take T 1 x)) := by rw [up2_n1 _ _ (by omega), up2_n1 _ _ (by omega), up2_eq]
          have e3 : (up2 (up2 (up2 (up2 M (ip + 1) A.length (nI kk)) (ip + 2) A.length (a_r T (nI kk) (t_take T 1 x))) (ip + 3) A.length (a_s T (nI kk) (a_x2 T (nI kk) (t_take T 1 x)))) (ip + 4) A.length (a_n T (nI kk) (a_x3 T (nI kk) (a_x2 T (nI kk) (t_take T 1 x))))) (ip + 3) A.length = (a_s T (nI kk) (a_x2 T (nI kk) (t_take T 1 x))) := by rw [up2_n1 _ _ (by omega), up2_eq]
          have e4 : (up2 (up2 (up2 (up2 M (ip + 1) A.length (nI kk)) (ip + 2) A.length (a_r T (nI kk) (t_take T 1 x))) (ip + 3) A.length (a_s T (nI kk) (a_x2 T (nI kk) (t_take T 1 x)))) (ip + 4) A.length (a_n T (nI kk) (a_x3 T (nI kk) (a_x2 T (nI kk) (t_take T 1 x))))) (ip + 4) A.length = (a_n T (nI kk) (a_x3 T (nI kk) (a_x2 T (nI kk) (t_take T 1 x)))) := by rw [up2_eq]
          rw [e1, e2, e3, e4]
          exact ⟨rfl, fun z => (q4 hy0 z).2⟩
      · exact hoA.snoc (fun z => (q4 hy0 z).1)
    have a135 : Gj X 0 0 w (pm (up2 (up2 (up2 (up2 M (ip + 1) A.length (nI kk)) (ip + 2) A.length (a_r T (nI kk) (t_take T 1 x))) (ip + 3) A.length (a_s T (nI kk) (a_x2 T (nI kk) (t_take T 1 x)))) (ip + 4) A.length (a_n T (nI kk) (a_x3 T (nI kk) (a_x2 T (nI kk) (t_take T 1 x))))) (a_4 T (nI kk) (t_take T 1 x))) J R 135 [some (.ref (w.2.1 4)), some (.int (nI kk)), some (.int (nI A.length))] [] := by
      refine g_iload_n C dX1_readAct_135 rfl ?_
      refine g_callSf C hts V (gX1_readAct_X1_goesToLabel) rfl hdX1_goesToLabel (by decide) c_X1_goesToLabel rfl rfl (Nat.le_of_ble_eq_true rfl) dX1_readAct_136 ?_
      refine g_if_eq (tgt := 147) C dX1_readAct_139 (by decide) (fun c139 => ?_) (fun c139 => ?_)
      · have ew : (t_act T (nI kk) (t_take T 1 x)).1 = (a_4 T (nI kk) (t_take T 1 x)) := if_pos c139
        exact t147 _ _ (by rw [pm_c (by omega), up2_n1 _ _ (by omega), up2_n1 _ _ (by omega), up2_n1 _ _ (by omega), up2_n1 _ _ (by omega)]; exact hAc.1) (fin _ _ _ ew.symm (fun a b z => rfl) (fun k hk => ⟨by rw [up2_n1 _ _ (by omega), up2_n1 _ _ (by omega), up2_n1 _ _ (by omega), up2_n1 _ _ (by omega)], rfl⟩) (fun a b z => rfl) (fun _ z => absurd c139 z)) (fr _ _ _ (fun a b z => rfl)) (pJ.rf J)
      · refine g_aload_n C dX1_readAct_142 rfl ?_
        refine g_iload_n C dX1_readAct_143 rfl ?_
        refine g_callVf C hts V (i := 4) (gX1_readAct_X1_takeWanted) rfl hdX1_takeWanted (by decide) (c_X1_takeWanted (c := A.length) hw hR hX (pm_I _ _) l4 (hTn _) hJ hc) (by rw [hw]; decide) rfl (by decide) rfl rfl (Nat.le_of_ble_eq_true rfl) dX1_readAct_144 ?_
        have ew : (t_act T (nI kk) (t_take T 1 x)).1 = t_want T (a_4 T (nI kk) (t_take T 1 x)) := if_neg c139
        rw [show up2 (pm (up2 (up2 (up2 (up2 M (ip + 1) A.length (nI kk)) (ip + 2) A.length (a_r T (nI kk) (t_take T 1 x))) (ip + 3) A.length (a_s T (nI kk) (a_x2 T (nI kk) (t_take T 1 x)))) (ip + 4) A.length (a_n T (nI kk) (a_x3 T (nI kk) (a_x2 T (nI kk) (t_take T 1 x))))) (a_4 T (nI kk) (t_take T 1 x))) 13 A.length (tP T (a_4 T (nI kk) (t_take T 1 x)).1) = pm (up2 (up2 (up2 (up2 (up2 M (ip + 1) A.length (nI kk)) (ip + 2) A.length (a_r T (nI kk) (t_take T 1 x))) (ip + 3) A.length (a_s T (nI kk) (a_x2 T (nI kk) (t_take T 1 x)))) (ip + 4) A.length (a_n T (nI kk) (a_x3 T (nI kk) (a_x2 T (nI kk) (t_take T 1 x))))) 13 A.length (tP T (a_4 T (nI kk) (t_take T 1 x)).1)) (a_4 T (nI kk) (t_take T 1 x)) from pm_up (by decide), pm_pm]
        refine t147 _ _ (by rw [pm_c (by omega), up2_n1 _ _ (by omega), up2_n1 _ _ (by omega), up2_n1 _ _ (by omega), up2_n1 _ _ (by omega), up2_n1 _ _ (by omega)]; exact hAc.1) (fin _ (up2 (up2 (up2 (up2 (up2 M (ip + 1) A.length (nI kk)) (ip + 2) A.length (a_r T (nI kk) (t_take T 1 x))) (ip + 3) A.length (a_s T (nI kk) (a_x2 T (nI kk) (t_take T 1 x)))) (ip + 4) A.length (a_n T (nI kk) (a_x3 T (nI kk) (a_x2 T (nI kk) (t_take T 1 x))))) 13 A.length (tP T (a_4 T (nI kk) (t_take T 1 x)).1)) (up2 J 12 A.length (J 8 (a_4 T (nI kk) (t_take T 1 x)).1)) ew.symm (fun a b z => up2_n1 _ _ z) (fun k hk => ⟨by rw [up2_n2 _ _ hk, up2_n1 _ _ (by omega), up2_n1 _ _ (by omega), up2_n1 _ _ (by omega), up2_n1 _ _ (by omega)], up2_n2 _ _ hk⟩) (fun a b z => up2_n1 _ _ z) (fun hy0 _ => ?_)) (fr _ _ _ (fun a b z => up2_n1 _ _ z)) (fun a b q1 q2 => up2_n1 _ _ q2)
        have h40 : (a_4 T (nI kk) (t_take T 1 x)).2.1 = 0 := Classical.byContradiction (fun z => by rw [t_want_ne z] at hy0; exact z hy0)
        have hil : isLab T (a_4 T (nI kk) (t_take T 1 x)).1 := Classical.byContradiction (fun z => by unfold t_want at hy0; rw [if_pos h40, if_neg z] at hy0; exact t_bad_ne T _ hy0)
        exact ⟨tW_ok hil.1, by rw [up2_eq]; exact (hTb _ l4).2.2.1 hil.1, up2_eq _ _ _ _⟩
    have a112 : Gj X 0 0 w (pm (up2 (up2 (up2 M (ip + 1) A.length (nI kk)) (ip + 2) A.length (a_r T (nI kk) (t_take T 1 x))) (ip + 3) A.length (a_s T (nI kk) (a_x2 T (nI kk) (t_take T 1 x)))) (a_x3 T (nI kk) (a_x2 T (nI kk) (t_take T 1 x)))) J R 112 [some (.ref (w.2.1 4)), some (.int (nI kk)), some (.int (nI A.length))] [] := by
      refine g_aload_n C dX1_readAct_112 rfl ?_
      refine g_getr (j := ip) C F1 (by rw [hw]; decide) rfl (by decide) 8 (by decide) rfl (hts (.fieldLink RX1 45 "FallBench$Parser" "into" "LFallBench$Program;") (by decide +kernel)) rfl hi8 dX1_readAct_113 ?_
      refine g_getr (j := (ip + 4)) C F2 ip_hi ip_k (by decide) 3 (by decide) rfl (hts (.fieldLink RX1 131 "FallBench$Program" "numbers" "[I") (by decide +kernel)) rfl ip_r3 dX1_readAct_116 ?_
      refine g_iload_n C dX1_readAct_119 rfl ?_
      refine g_iload_n C dX1_readAct_120 rfl ?_
      refine g_iconst (v := 1) C dX1_readAct_121 (by decide) ?_
      refine g_icmp_ne (tgt := 133) C dX1_readAct_122 (by decide) (fun c122 => ?_) (fun c122 => ?_)
      · refine g_iconst (v := 0) C dX1_readAct_133 (by decide) ?_
        refine g_iast C ip_hi4 ip_k4 (hb _ ip_l4) dX1_readAct_134 ?_
        have ex : a_x4 T (nI kk) (a_x3 T (nI kk) (a_x2 T (nI kk) (t_take T 1 x))) = (a_x3 T (nI kk) (a_x2 T (nI kk) (t_take T 1 x))) := if_neg c122
        have ev : (a_n T (nI kk) (a_x3 T (nI kk) (a_x2 T (nI kk) (t_take T 1 x)))) = (0) := if_neg c122
        rw [nI_clamp (show A.length < 2 ^ 31 by omega), pm_up (by omega), ← ex, ← ev]
        exact a135
      · refine g_aload_n C dX1_readAct_125 rfl ?_
        refine g_iconst (v := 3) C dX1_readAct_126 (by decide) ?_
        refine g_callVf C hts V (i := 4) (gX1_readAct_X1_takeValue) rfl hdX1_takeValue (by decide) (Cf.to (c_X1_takeValue (k := 3) hw hR hX (pm_I (up2 (up2 (up2 M (ip + 1) A.length (nI kk)) (ip + 2) A.length (a_r T (nI kk) (t_take T 1 x))) (ip + 3) A.length (a_s T (nI kk) (a_x2 T (nI kk) (t_take T 1 x)))) (a_x3 T (nI kk) (a_x2 T (nI kk) (t_take T 1 x)))) l3 ((tb _ (fun y => by rw [up2_n1 _ _ (by omega), up2_n1 _ _ (by omega), up2_n1 _ _ (by omega)]) (fun y => by rw [up2_n1 _ _ (by omega), up2_n1 _ _ (by omega), up2_n1 _ _ (by omega)])).pm _) (by decide)) rfl (pm_pm _ _ _)) (by rw [hw]; decide) rfl (by decide) rfl rfl (Nat.le_of_ble_eq_true rfl) dX1_readAct_127 ?_
        refine g_goto (tgt := 134) C dX1_readAct_130 (by decide) ?_
        refine g_iast C ip_hi4 ip_k4 (hb _ ip_l4) dX1_readAct_134 ?_
        have ex : a_x4 T (nI kk) (a_x3 T (nI kk) (a_x2 T (nI kk) (t_take T 1 x))) = (t_take T 3 (a_x3 T (nI kk) (a_x2 T (nI kk) (t_take T 1 x)))) := if_pos c122
        have ev : (a_n T (nI kk) (a_x3 T (nI kk) (a_x2 T (nI kk) (t_take T 1 x)))) = (t_val T 3 (a_x3 T (nI kk) (a_x2 T (nI kk) (t_take T 1 x)))) := if_pos c122
        rw [nI_clamp (show A.length < 2 ^ 31 by omega), pm_up (by omega), ← ex, ← ev]
        exact a135
    have a85 : Gj X 0 0 w (pm (up2 (up2 M (ip + 1) A.length (nI kk)) (ip + 2) A.length (a_r T (nI kk) (t_take T 1 x))) (a_x2 T (nI kk) (t_take T 1 x))) J R 85 [some (.ref (w.2.1 4)), some (.int (nI kk)), some (.int (nI A.length))] [] := by
      refine g_aload_n C dX1_readAct_85 rfl ?_
      refine g_getr (j := ip) C F1 (by rw [hw]; decide) rfl (by decide) 8 (by decide) rfl (hts (.fieldLink RX1 45 "FallBench$Parser" "into" "LFallBench$Program;") (by decide +kernel)) rfl hi8 dX1_readAct_86 ?_
      refine g_getr (j := (ip + 3)) C F2 ip_hi ip_k (by decide) 2 (by decide) rfl (hts (.fieldLink RX1 128 "FallBench$Program" "seconds" "[I") (by decide +kernel)) rfl ip_r2 dX1_readAct_89 ?_
      refine g_iload_n C dX1_readAct_92 rfl ?_
      refine g_getsR C dX1_readAct_93 (fun q hq => ?_)
      refine g_iload_n C dX1_readAct_96 rfl ?_
      refine g_sld (v := rg (nI kk)) C hq (vp_in_nI (N := 14) hk14 (by decide)) rfl dX1_readAct_97 ?_
      refine g_iconst (v := 2) C dX1_readAct_98 (by decide) ?_
      refine g_icmp_lt (tgt := 110) C dX1_readAct_99 (by decide) (fun c99 => ?_) (fun c99 => ?_)
      · refine g_iconst (v := (-1)) C dX1_readAct_110 (by decide) ?_
        refine g_iast C ip_hi3 ip_k3 (hb _ ip_l3) dX1_readAct_111 ?_
        have ex : a_x3 T (nI kk) (a_x2 T (nI kk) (t_take T 1 x)) = (a_x2 T (nI kk) (t_take T 1 x)) := if_pos c99
        have ev : (a_s T (nI kk) (a_x2 T (nI kk) (t_take T 1 x))) = (-1) := if_pos c99
        rw [nI_clamp (show A.length < 2 ^ 31 by omega), pm_up (by omega), ← ex, ← ev]
        exact a112
      · refine g_aload_n C dX1_readAct_102 rfl ?_
        refine g_iconst (v := 2) C dX1_readAct_103 (by decide) ?_
        refine g_callVf C hts V (i := 4) (gX1_readAct_X1_takeValue) rfl hdX1_takeValue (by decide) (Cf.to (c_X1_takeValue (k := 2) hw hR hX (pm_I (up2 (up2 M (ip + 1) A.length (nI kk)) (ip + 2) A.length (a_r T (nI kk) (t_take T 1 x))) (a_x2 T (nI kk) (t_take T 1 x))) l2 ((tb _ (fun y => by rw [up2_n1 _ _ (by omega), up2_n1 _ _ (by omega)]) (fun y => by rw [up2_n1 _ _ (by omega), up2_n1 _ _ (by omega)])).pm _) (by decide)) rfl (pm_pm _ _ _)) (by rw [hw]; decide) rfl (by decide) rfl rfl (Nat.le_of_ble_eq_true rfl) dX1_readAct_104 ?_
        refine g_goto (tgt := 111) C dX1_readAct_107 (by decide) ?_
        refine g_iast C ip_hi3 ip_k3 (hb _ ip_l3) dX1_readAct_111 ?_
        have ex : a_x3 T (nI kk) (a_x2 T (nI kk) (t_take T 1 x)) = (t_take T 2 (a_x2 T (nI kk) (t_take T 1 x))) := if_neg c99
        have ev : (a_s T (nI kk) (a_x2 T (nI kk) (t_take T 1 x))) = (t_val T 2 (a_x2 T (nI kk) (t_take T 1 x))) := if_neg c99
        rw [nI_clamp (show A.length < 2 ^ 31 by omega), pm_up (by omega), ← ex, ← ev]
        exact a112
    have a58 : Gj X 0 0 w (pm (up2 M (ip + 1) A.length (nI kk)) (t_take T 1 x)) J R 58 [some (.ref (w.2.1 4)), some (.int (nI kk)), some (.int (nI A.length))] [] := by
      refine g_aload_n C dX1_readAct_58 rfl ?_
      refine g_getr (j := ip) C F1 (by rw [hw]; decide) rfl (by decide) 8 (by decide) rfl (hts (.fieldLink RX1 45 "FallBench$Parser" "into" "LFallBench$Program;") (by decide +kernel)) rfl hi8 dX1_readAct_59 ?_
      refine g_getr (j := (ip + 2)) C F2 ip_hi ip_k (by decide) 1 (by decide) rfl (hts (.fieldLink RX1 118 "FallBench$Program" "firsts" "[I") (by decide +kernel)) rfl ip_r1 dX1_readAct_62 ?_
      refine g_iload_n C dX1_readAct_65 rfl ?_
      refine g_getsR C dX1_readAct_66 (fun q hq => ?_)
      refine g_iload_n C dX1_readAct_69 rfl ?_
      refine g_sld (v := rg (nI kk)) C hq (vp_in_nI (N := 14) hk14 (by decide)) rfl dX1_readAct_70 ?_
      refine g_iconst (v := 1) C dX1_readAct_71 (by decide) ?_
      refine g_icmp_lt (tgt := 83) C dX1_readAct_72 (by decide) (fun c72 => ?_) (fun c72 => ?_)
      · refine g_iconst (v := (-1)) C dX1_readAct_83 (by decide) ?_
        refine g_iast C ip_hi2 ip_k2 (hb _ ip_l2) dX1_readAct_84 ?_
        have ex : a_x2 T (nI kk) (t_take T 1 x) = (t_take T 1 x) := if_pos c72
        have ev : (a_r T (nI kk) (t_take T 1 x)) = (-1) := if_pos c72
        rw [nI_clamp (show A.length < 2 ^ 31 by omega), pm_up (by omega), ← ex, ← ev]
        exact a85
      · refine g_aload_n C dX1_readAct_75 rfl ?_
        refine g_iconst (v := 2) C dX1_readAct_76 (by decide) ?_
        refine g_callVf C hts V (i := 4) (gX1_readAct_X1_takeValue) rfl hdX1_takeValue (by decide) (Cf.to (c_X1_takeValue (k := 2) hw hR hX (pm_I (up2 M (ip + 1) A.length (nI kk)) (t_take T 1 x)) l1 ((tb _ (fun y => by rw [up2_n1 _ _ (by omega)]) (fun y => by rw [up2_n1 _ _ (by omega)])).pm _) (by decide)) rfl (pm_pm _ _ _)) (by rw [hw]; decide) rfl (by decide) rfl rfl (Nat.le_of_ble_eq_true rfl) dX1_readAct_77 ?_
        refine g_goto (tgt := 84) C dX1_readAct_80 (by decide) ?_
        refine g_iast C ip_hi2 ip_k2 (hb _ ip_l2) dX1_readAct_84 ?_
        have ex : a_x2 T (nI kk) (t_take T 1 x) = (t_take T 2 (t_take T 1 x)) := if_neg c72
        have ev : (a_r T (nI kk) (t_take T 1 x)) = (t_val T 2 (t_take T 1 x)) := if_neg c72
        rw [nI_clamp (show A.length < 2 ^ 31 by omega), pm_up (by omega), ← ex, ← ev]
        exact a85
    refine g_aload_n C dX1_readAct_48 rfl ?_
    refine g_getr (j := ip) C F1 (by rw [hw]; decide) rfl (by decide) 8 (by decide) rfl (hts (.fieldLink RX1 45 "FallBench$Parser" "into" "LFallBench$Program;") (by decide +kernel)) rfl hi8 dX1_readAct_49 ?_
    refine g_getr (j := (ip + 1)) C F2 ip_hi ip_k (by decide) 0 (by decide) rfl (hts (.fieldLink RX1 115 "FallBench$Program" "kinds" "[I") (by decide +kernel)) rfl ip_r0 dX1_readAct_52 ?_
    refine g_iload_n C dX1_readAct_55 rfl ?_
    refine g_iload_n C dX1_readAct_56 rfl ?_
    refine g_iast C ip_hi1 ip_k1 (hb _ ip_l1) dX1_readAct_57 ?_
    rw [nI_clamp (show A.length < 2 ^ 31 by omega), pm_up (by omega)]
    exact a58
  refine g_aload_n C dX1_readAct_0 rfl ?_
  refine g_aload_n C dX1_readAct_1 rfl ?_
  refine g_getr (j := 5) C F1 (by rw [hw]; decide) rfl (by decide) 0 (by decide) rfl (hts (.fieldLink RX1 12 "FallBench$Parser" "tokens" "LFallBench$Tokens;") (by decide +kernel)) rfl (hR (4, 0, 5) (by decide)) dX1_readAct_2 ?_
  refine g_getr (j := 8) C F5 (by rw [hw]; decide) rfl (by decide) 2 (by decide) rfl (hts (.fieldLink RX1 105 "FallBench$Tokens" "values" "[J") (by decide +kernel)) rfl (hR (5, 2, 8) (by decide)) dX1_readAct_5 ?_
  refine g_aload_n C dX1_readAct_8 rfl ?_
  refine g_geti (v := nI x.1) C F1 (by rw [hw]; decide) rfl (by decide) 7 (by decide) rfl (hts (.fieldLink RX1 39 "FallBench$Parser" "at" "I") (by decide +kernel)) rfl hat dX1_readAct_9 ?_
  refine g_lald (v := J 8 x.1) C (by rw [hw]; decide) rfl (vp_in_nI (N := 1001) (by omega) (by decide)) (by rw [nI_clamp (by omega)]) dX1_readAct_12 ?_
  refine g_callVf C hts V (i := 4) (gX1_readAct_X1_kindOfWord) rfl hdX1_kindOfWord (by decide) (Cf.to (c_X1_kindOfWord hw hR) (congrArg (fun z => some (Value.int z)) (show _ = nI kk by rw [e8, kw_is hJ hW, hkk])) rfl) (by rw [hw]; decide) rfl (by decide) rfl rfl (Nat.le_of_ble_eq_true rfl) dX1_readAct_13 ?_
  refine g_istore_n C V.2.1 dX1_readAct_16 (by decide) rfl ?_
  refine g_aload_n C dX1_readAct_17 rfl ?_
  refine g_getr (j := ip) C F1 (by rw [hw]; decide) rfl (by decide) 8 (by decide) rfl (hts (.fieldLink RX1 45 "FallBench$Parser" "into" "LFallBench$Program;") (by decide +kernel)) rfl hi8 dX1_readAct_18 ?_
  refine g_geti (v := nI A.length) C F2 ip_hi ip_k (by decide) 4 (by decide) rfl (hts (.fieldLink RX1 71 "FallBench$Program" "count" "I") (by decide +kernel)) rfl hAc.1 dX1_readAct_21 ?_
  refine g_istore_n C V.2.1 dX1_readAct_24 (by decide) rfl ?_
  refine g_iload_n C dX1_readAct_25 rfl ?_
  refine g_iconst (v := (-1)) C dX1_readAct_26 (by decide) ?_
  refine g_icmp_eq (tgt := 36) C dX1_readAct_27 (by decide) (fun c27 => absurd c27 (nm1 (by omega))) (fun c27 => ?_)
  refine g_iload_n C dX1_readAct_30 rfl ?_
  refine g_bipush (v := 80) C dX1_readAct_31 (by decide) ?_
  refine g_icmp_lt (tgt := 42) C dX1_readAct_33 (by decide) (fun c33 => ?_) (fun c33 => ?_)
  · refine g_aload_n C dX1_readAct_42 rfl ?_
    refine g_iconst (v := 1) C dX1_readAct_43 (by decide) ?_
    refine g_callVf C hts V (i := 4) (gX1_readAct_X1_take) rfl hdX1_take (by decide) (c_X1_take (k := 1) hw hR hX hp hl hTb (by decide) (by decide)) (by rw [hw]; decide) rfl (by decide) rfl rfl (Nat.le_of_ble_eq_true rfl) dX1_readAct_44 ?_
    refine g_pop C dX1_readAct_47 rfl ?_
    exact goal80 ((nI_ltI (a := A.length) (b := 80) (by omega) (by decide)).mp c33)
  · have hmid : t_mid T x A = (t_flt T 2 x, A) := by unfold t_mid; rw [if_pos ⟨h0, hw1⟩, if_pos (by rcases Nat.lt_or_ge A.length 80 with z | z; exact absurd (nI_lt (b := 80) z (by decide)) c33; exact z)]
    refine g_aload_n C dX1_readAct_36 rfl ?_
    refine g_iconst (v := 2) C dX1_readAct_37 (by decide) ?_
    refine g_callVf C hts V (i := 4) (gX1_readAct_X1_setFault) rfl hdX1_setFault (by decide) (c_X1_setFault hw hR hat hn) (by rw [hw]; decide) rfl (by decide) rfl rfl (Nat.le_of_ble_eq_true rfl) dX1_readAct_38 ?_
    exact g_vret C Rr ⟨rfl, ⟨rfl, rfl, by rw [pm_flt hp en.2.1]; rw [hmid] at hoM ⊢; exact hs.flt (by show ¬ (2 : Int32) = 0; decide) ⟨hoM.1, hoS.2.1, hoM.2⟩, by rw [pm_flt (T := T) hp en.2.1]; exact pF.pm ip _, pJ.rf J⟩⟩ dX1_readAct_41
