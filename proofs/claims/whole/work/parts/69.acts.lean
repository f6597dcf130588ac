/-! THE PARSER: labels and acts -/
def labC (M : Nat → Nat → Int32) (J : Nat → Nat → Int64) (L : pL) : Prop := M 4 6 = nI L.length ∧ ∀ j, j < L.length → J 10 j = enc5 (L.getD j ([], 0)).1 ∧ M 11 j = nI (L.getD j ([], 0)).2
def okLs (L : pL) : Prop := ∀ j, j < L.length → okW (L.getD j ([], 0)).1
def actC (ip : Nat) (M : Nat → Nat → Int32) (J : Nat → Nat → Int64) (A : List act6) : Prop := M ip 4 = nI A.length ∧ ∀ k, k < A.length → (M (ip + 1) k, M (ip + 2) k, M (ip + 3) k, M (ip + 4) k) = (A.getD k dA).1 ∧ (¬ goL (A.getD k dA).1.1 = 0 → J 12 k = enc5 (A.getD k dA).2.1 ∧ M 13 k = (A.getD k dA).2.2)
def okAs (A : List act6) : Prop := ∀ k, k < A.length → ¬ goL (A.getD k dA).1.1 = 0 → okW (A.getD k dA).2.1
def stC (ip : Nat) (T : List Int32) (M : Nat → Nat → Int32) (J : Nat → Nat → Int64) (s : pS) : Prop := psI M s.1 ∧ tabC T M J ∧ okS T s ∧ namC J ∧ (s.1.2.1 = 0 → labC M J s.2.1 ∧ actC ip M J s.2.2 ∧ okLs s.2.1 ∧ okAs s.2.2)
def pF (ip : Nat) (M M' : Nat → Nat → Int32) : Prop := ∀ x y, ¬ (x = 4 ∧ 6 ≤ y) → ¬ x = 11 → ¬ x = 13 → ¬ (ip ≤ x ∧ x ≤ ip + 4) → M' x y = M x y
def pJ (J J' : Nat → Nat → Int64) : Prop := ∀ x y, ¬ x = 10 → ¬ x = 12 → J' x y = J x y
theorem pF.rf (ip : Nat) (M : Nat → Nat → Int32) : pF ip M M := fun _ _ _ _ _ _ => rfl
theorem pF.tr {ip : Nat} {M M' M2 : Nat → Nat → Int32} (h : pF ip M M') (g : pF ip M' M2) : pF ip M M2 := fun x y a b c d => (g x y a b c d).trans (h x y a b c d)
theorem pJ.rf (J : Nat → Nat → Int64) : pJ J J := fun _ _ _ _ => rfl
theorem pJ.tr {J J' J2 : Nat → Nat → Int64} (h : pJ J J') (g : pJ J' J2) : pJ J J2 := fun x y a b => (g x y a b).trans (h x y a b)
theorem pF.pm (ip : Nat) {M : Nat → Nat → Int32} (x : px) : pF ip M (pm M x) := fun a b h _ _ _ => pm_o (fun z => h ⟨z.1, by omega⟩)
theorem snoc_lt {α : Type} {L : List α} {a d : α} {j : Nat} (h : j < L.length) : (L ++ [a]).getD j d = L.getD j d := by
  simp only [List.getD]; rw [List.getElem?_append_left h]
theorem snoc_eq {α : Type} {L : List α} {a d : α} {j : Nat} (h : j = L.length) : (L ++ [a]).getD j d = a := by
  subst h; simp only [List.getD]; rw [List.getElem?_append_right (Nat.le_refl _)]; simp
theorem snoc_len {α : Type} {L : List α} {a : α} : (L ++ [a]).length = L.length + 1 := by rw [List.length_append]; rfl
theorem pm_up {M : Nat → Nat → Int32} {x : px} {i k : Nat} {v : Int32} (h : i ≠ 4) : up2 (pm M x) i k v = pm (up2 M i k v) x :=
  pm_of (by rw [up2_n1 _ _ (fun z => h z.symm), pm_7]) (by rw [up2_n1 _ _ (fun z => h z.symm), pm_9]) (by rw [up2_n1 _ _ (fun z => h z.symm), pm_10]) (fun a b q => by
    by_cases z : a = i ∧ b = k
    · obtain ⟨rfl, rfl⟩ := z; rw [up2_eq, up2_eq]
    · rw [up2_nb z, up2_nb z, pm_o q])
/-- a state that has a fault -/
theorem stC.flt {ip : Nat} {T : List Int32} {M : Nat → Nat → Int32} {J : Nat → Nat → Int64} {s : pS} (h : stC ip T M J s) {x : px} {L : pL} {A : List act6} (hx : ¬ x.2.1 = 0) (ho : okS T (x, L, A)) : stC ip T (pm M x) J (x, L, A) := ⟨pm_I _ _, h.2.1.pm x, ho, h.2.2.2.1, fun z => absurd z hx⟩
theorem lfd_is {M : Nat → Nat → Int32} {J : Nat → Nat → Int64} {L : pL} {W : List Int32} (h : labC M J L) (ho : okLs L) (hW : okW W) : hfd (fun k => J 10 k = enc5 W) L.length = lfd L W := by
  unfold lfd
  exact hfd_congr _ (fun k hk => by rw [(h.2 k hk).1]; exact ⟨fun z => enc5_inj (ho k hk) hW z, fun z => by rw [z]⟩)
theorem okLs.snoc {L : pL} {W : List Int32} {c : Nat} (h : okLs L) (hW : okW W) : okLs (L ++ [(W, c)]) := fun j hj => by
  rw [snoc_len] at hj
  rcases Nat.lt_or_ge j L.length with g | g
  · rw [snoc_lt g]; exact h j g
  · rw [snoc_eq (by omega)]; exact hW
theorem okAs.snoc {A : List act6} {a : act6} (h : okAs A) (ha : ¬ goL a.1.1 = 0 → okW a.2.1) : okAs (A ++ [a]) := fun j hj => by
  rw [snoc_len] at hj
  rcases Nat.lt_or_ge j A.length with g | g
  · rw [snoc_lt g]; exact h j g
  · rw [snoc_eq (by omega)]; exact ha

set_option maxHeartbeats 4000000 in
set_option maxRecDepth 100000 in
theorem c_X1_readLabel {l : Launch} {D : va_G} {w : gw} {M : Nat → Nat → Int32} {J : Nat → Nat → Int64} {R : Nat → Nat → Option Nat} (hw : w.1 = 166) (hR : LayC R) {ip : Nat} (hip : isProg w R ip) (hi8 : R 4 8 = some ip) (h13 : 13 < ip) {T : List Int32} (hX : okX T) {x : px} {L : pL} {A : List act6} (hs : stC ip T M J (x, L, A)) (h0 : x.2.1 = 0) (hlb : isLab T x.1) : Ct l yX1_readLabel wsX1_readLabel ({ frames := 2, cells := 0, slots := 0, locals := 42 } : Room) D w [.ref (w.2.1 4)] (M, J, R) (fun v u => v = none ∧ u.2.2 = R ∧ stC ip T u.1 u.2.1 ((t_lab T A.length (x, L)).1, (t_lab T A.length (x, L)).2, A) ∧ pF ip M u.1 ∧ pJ J u.2.1) := by
  obtain ⟨ip_hi4, ip_k, ip_k1, ip_k2, ip_k3, ip_k4, ip_l1, ip_l2, ip_l3, ip_l4, ip_r0, ip_r1, ip_r2, ip_r3⟩ := id hip
  have ip_hi : ip < w.1 := by omega
  have ip_hi1 : ip + 1 < w.1 := by omega
  have ip_hi2 : ip + 2 < w.1 := by omega
  have ip_hi3 : ip + 3 < w.1 := by omega
  obtain ⟨hp, hTb, hoS, hJ, hgd⟩ := id hs
  dsimp only at hp hgd
  obtain ⟨hat, hfk, hfp⟩ := id hp
  have hl : live T x.1 := hoS.1
  have hn := live_le hX.1 hl
  have en := hTb _ hl
  refine Cg.of (own := RX1) (cc := cX1_readLabel) (maxL := 1) (ret := none) 0 (by decide) rfl rfl (Nat.le_of_ble_eq_true rfl) (fun X C hts V Rr => ?_)
  have F1 : FW X 1 := fun q h => hts q (List.mem_cons_of_mem _ (List.mem_append_left _ (List.mem_append_left _ (List.mem_append_right _ h))))
  have F5 : FW X 5 := fun q h => hts q (List.mem_cons_of_mem _ (List.mem_append_left _ (List.mem_append_right _ h)))
  have F2 : FW X 2 := fun q h => hts q (List.mem_cons_of_mem _ (List.mem_append_right _ h))
  show Gj X 0 0 w M J R 0 [some (.ref (w.2.1 4))] []
  obtain ⟨hLb, hAc, hoL, hoA⟩ := hgd h0
  have hW : okW (tW T x.1) := tW_ok hlb.1
  have hL20 : L.length ≤ 20 := hoS.2.1
  have e8 : J 8 x.1 = enc5 (tW T x.1) := en.2.2.1 hlb.1
  have hp2 : psI (up2 (up2 M 11 L.length (nI A.length)) 4 6 (nI L.length + 1)) x := ⟨by rw [up2_n2 _ _ (by decide), up2_n1 _ _ (by decide)]; exact hat, by rw [up2_n2 _ _ (by decide), up2_n1 _ _ (by decide)]; exact hfk, by rw [up2_n2 _ _ (by decide), up2_n1 _ _ (by decide)]; exact hfp⟩
  have hTb2 : tabC T (up2 (up2 M 11 L.length (nI A.length)) 4 6 (nI L.length + 1)) (up2 J 10 L.length (enc5 (tW T x.1))) := hTb.o (fun y => by rw [up2_n1 _ _ (by decide), up2_n1 _ _ (by decide)]) (fun y => by rw [up2_n1 _ _ (by decide), up2_n1 _ _ (by decide)]) (fun y => up2_n1 _ _ (by decide))
  have hoT : okS T ((t_lab T A.length (x, L)).1, (t_lab T A.length (x, L)).2, A) := ⟨(t_lab_ok (c := A.length) (s := (x, L)) hl hL20).1, (t_lab_ok (c := A.length) (s := (x, L)) hl hL20).2.1, hoS.2.2⟩
  have l1 := live_take (T := T) (k := 1) hl (by decide) (by decide)
  refine g_aload_n C dX1_readLabel_0 rfl ?_
  refine g_geti (v := nI L.length) C F1 (by rw [hw]; decide) rfl (by decide) 6 (by decide) rfl (hts (.fieldLink RX1 35 "FallBench$Parser" "labelCount" "I") (by decide +kernel)) rfl hLb.1 dX1_readLabel_1 ?_
  refine g_bipush (v := 20) C dX1_readLabel_4 (by decide) ?_
  refine g_icmp_lt (tgt := 17) C dX1_readLabel_6 (by decide) (fun c6 => ?_) (fun c6 => ?_)
  · refine g_aload_n C dX1_readLabel_17 rfl ?_
    refine g_aload_n C dX1_readLabel_18 rfl ?_
    refine g_getr (j := 5) C F1 (by rw [hw]; decide) rfl (by decide) 0 (by decide) rfl (hts (.fieldLink RX1 12 "FallBench$Parser" "tokens" "LFallBench$Tokens;") (by decide +kernel)) rfl (hR (4, 0, 5) (by decide)) dX1_readLabel_19 ?_
    refine g_getr (j := 8) C F5 (by rw [hw]; decide) rfl (by decide) 2 (by decide) rfl (hts (.fieldLink RX1 105 "FallBench$Tokens" "values" "[J") (by decide +kernel)) rfl (hR (5, 2, 8) (by decide)) dX1_readLabel_22 ?_
    refine g_aload_n C dX1_readLabel_25 rfl ?_
    refine g_geti (v := nI x.1) C F1 (by rw [hw]; decide) rfl (by decide) 7 (by decide) rfl (hts (.fieldLink RX1 39 "FallBench$Parser" "at" "I") (by decide +kernel)) rfl hat dX1_readLabel_26 ?_
    refine g_lald (v := J 8 x.1) C (by rw [hw]; decide) rfl (vp_in_nI (N := 1001) (by omega) (by decide)) (by rw [nI_clamp (by omega)]) dX1_readLabel_29 ?_
    refine g_callVf C hts V (i := 4) (gX1_readLabel_X1_labelNumber) rfl hdX1_labelNumber (by decide) (Cf.to (c_X1_labelNumber (c := L.length) hw hR hLb.1 hL20) (congrArg (fun z => some (Value.int z)) (show _ = optI (lfd L (tW T x.1)) by rw [e8, lfd_is hLb hoL hW])) rfl) (by rw [hw]; decide) rfl (by decide) rfl rfl (Nat.le_of_ble_eq_true rfl) dX1_readLabel_30 ?_
    refine g_iconst (v := (-1)) C dX1_readLabel_33 (by decide) ?_
    refine g_icmp_eq (tgt := 45) C dX1_readLabel_34 (by decide) (fun c34 => ?_) (fun c34 => ?_)
    · have hlen : L.length < 20 := (nI_ltI (a := L.length) (b := 20) (by omega) (by decide)).mp c6
      have hlabN : t_lab T A.length (x, L) = (t_take T 4 (t_take T 1 x), L ++ [(tW T x.1, A.length)]) := by
        unfold t_lab
        rw [if_neg (show ¬ 20 ≤ L.length by omega)]
        rcases hf : lfd L (tW T x.1) with _ | h
        · rfl
        · rw [hf] at c34; exact absurd c34 (nm1 (by have := (hfd_spec hf).1; omega))
      have hfF : pF ip M (pm (up2 (up2 M 11 L.length (nI A.length)) 4 6 (nI L.length + 1)) (t_take T 4 (t_take T 1 x))) := fun a b q1 q2 q3 q4 => by rw [pm_o (fun z => q1 ⟨z.1, by omega⟩), up2_nb (fun z => q1 ⟨z.1, by omega⟩), up2_n1 _ _ q2]
      have hfin : stC ip T (pm (up2 (up2 M 11 L.length (nI A.length)) 4 6 (nI L.length + 1)) (t_take T 4 (t_take T 1 x))) (up2 J 10 L.length (enc5 (tW T x.1))) ((t_lab T A.length (x, L)).1, (t_lab T A.length (x, L)).2, A) := by
        rw [hlabN] at hoT ⊢
        refine ⟨pm_I _ _, hTb2.pm _, hoT, fun k hk => by rw [up2_n1 _ _ (by decide)]; exact hJ k hk, fun _ => ⟨⟨?_, fun j hj => ?_⟩, ⟨?_, fun k hk => ?_⟩, hoL.snoc hW, hoA⟩⟩
        · rw [pm_o (by omega), up2_eq, nI_p1]; dsimp only; rw [snoc_len]
        · dsimp only at hj ⊢
          rw [snoc_len] at hj
          rcases Nat.lt_or_ge j L.length with g | g
          · rw [snoc_lt g, up2_n2 _ _ (by omega), pm_c (by decide), up2_n1 _ _ (by decide), up2_n2 _ _ (by omega)]; exact hLb.2 j g
          · obtain rfl : j = L.length := by omega
            rw [snoc_eq rfl, up2_eq, pm_c (by decide), up2_n1 _ _ (by decide), up2_eq]; exact ⟨rfl, rfl⟩
        · rw [pm_c (by omega), up2_n1 _ _ (by omega), up2_n1 _ _ (by omega)]; exact hAc.1
        · rw [pm_c (by omega), pm_c (by omega), pm_c (by omega), pm_c (by omega), up2_n1 _ _ (by omega), up2_n1 _ _ (by omega), up2_n1 _ _ (by omega), up2_n1 _ _ (by omega), up2_n1 _ _ (by omega), up2_n1 _ _ (by omega), up2_n1 _ _ (by omega), up2_n1 _ _ (by omega)]
          refine ⟨(hAc.2 k hk).1, fun z => ?_⟩
          rw [up2_n1 _ _ (by decide), pm_c (by decide), up2_n1 _ _ (by decide), up2_n1 _ _ (by decide)]
          exact (hAc.2 k hk).2 z
      refine g_aload_n C dX1_readLabel_45 rfl ?_
      refine g_getr (j := 10) C F1 (by rw [hw]; decide) rfl (by decide) 2 (by decide) rfl (hts (.fieldLink RX1 22 "FallBench$Parser" "labels" "[J") (by decide +kernel)) rfl (hR (4, 2, 10) (by decide)) dX1_readLabel_46 ?_
      refine g_aload_n C dX1_readLabel_49 rfl ?_
      refine g_geti (v := nI L.length) C F1 (by rw [hw]; decide) rfl (by decide) 6 (by decide) rfl (hts (.fieldLink RX1 35 "FallBench$Parser" "labelCount" "I") (by decide +kernel)) rfl hLb.1 dX1_readLabel_50 ?_
      refine g_aload_n C dX1_readLabel_53 rfl ?_
      refine g_getr (j := 5) C F1 (by rw [hw]; decide) rfl (by decide) 0 (by decide) rfl (hts (.fieldLink RX1 12 "FallBench$Parser" "tokens" "LFallBench$Tokens;") (by decide +kernel)) rfl (hR (4, 0, 5) (by decide)) dX1_readLabel_54 ?_
      refine g_getr (j := 8) C F5 (by rw [hw]; decide) rfl (by decide) 2 (by decide) rfl (hts (.fieldLink RX1 105 "FallBench$Tokens" "values" "[J") (by decide +kernel)) rfl (hR (5, 2, 8) (by decide)) dX1_readLabel_57 ?_
      refine g_aload_n C dX1_readLabel_60 rfl ?_
      refine g_geti (v := nI x.1) C F1 (by rw [hw]; decide) rfl (by decide) 7 (by decide) rfl (hts (.fieldLink RX1 39 "FallBench$Parser" "at" "I") (by decide +kernel)) rfl hat dX1_readLabel_61 ?_
      refine g_lald (v := enc5 (tW T x.1)) C (by rw [hw]; decide) rfl (vp_in_nI (N := 1001) (by omega) (by decide)) (by rw [nI_clamp (by omega)]; exact e8) dX1_readLabel_64 ?_
      refine g_last C (by rw [hw]; decide) rfl (vp_in_nI (N := 20) (n := L.length) hlen (by decide)) dX1_readLabel_65 ?_
      rw [nI_clamp (show L.length < 2 ^ 31 by omega)]
      refine g_aload_n C dX1_readLabel_66 rfl ?_
      refine g_getr (j := 11) C F1 (by rw [hw]; decide) rfl (by decide) 3 (by decide) rfl (hts (.fieldLink RX1 25 "FallBench$Parser" "labelActs" "[I") (by decide +kernel)) rfl (hR (4, 3, 11) (by decide)) dX1_readLabel_67 ?_
      refine g_aload_n C dX1_readLabel_70 rfl ?_
      refine g_geti (v := nI L.length) C F1 (by rw [hw]; decide) rfl (by decide) 6 (by decide) rfl (hts (.fieldLink RX1 35 "FallBench$Parser" "labelCount" "I") (by decide +kernel)) rfl hLb.1 dX1_readLabel_71 ?_
      refine g_aload_n C dX1_readLabel_74 rfl ?_
      refine g_getr (j := ip) C F1 (by rw [hw]; decide) rfl (by decide) 8 (by decide) rfl (hts (.fieldLink RX1 45 "FallBench$Parser" "into" "LFallBench$Program;") (by decide +kernel)) rfl hi8 dX1_readLabel_75 ?_
      refine g_geti (v := nI A.length) C F2 ip_hi ip_k (by decide) 4 (by decide) rfl (hts (.fieldLink RX1 71 "FallBench$Program" "count" "I") (by decide +kernel)) rfl hAc.1 dX1_readLabel_78 ?_
      refine g_iast C (by rw [hw]; decide) rfl (vp_in_nI (N := 20) (n := L.length) hlen (by decide)) dX1_readLabel_81 ?_
      rw [nI_clamp (show L.length < 2 ^ 31 by omega)]
      refine g_aload_n C dX1_readLabel_82 rfl ?_
      refine g_dup C dX1_readLabel_83 rfl ?_
      refine g_geti (v := nI L.length) C F1 (by rw [hw]; decide) rfl (by decide) 6 (by decide) rfl (hts (.fieldLink RX1 35 "FallBench$Parser" "labelCount" "I") (by decide +kernel)) rfl (by rw [up2_n1 _ _ (by decide)]; exact hLb.1) dX1_readLabel_84 ?_
      refine g_iconst (v := 1) C dX1_readLabel_87 (by decide) ?_
      refine g_iadd C dX1_readLabel_88 ?_
      refine g_puti C F1 (by rw [hw]; decide) rfl (by decide) 6 (by decide) rfl (hts (.fieldLink RX1 35 "FallBench$Parser" "labelCount" "I") (by decide +kernel)) rfl rfl rfl rfl dX1_readLabel_89 ?_
      refine g_aload_n C dX1_readLabel_92 rfl ?_
      refine g_iconst (v := 1) C dX1_readLabel_93 (by decide) ?_
      refine g_callVf C hts V (i := 4) (gX1_readLabel_X1_take) rfl hdX1_take (by decide) (c_X1_take (k := 1) hw hR hX hp2 hl hTb2 (by decide) (by decide)) (by rw [hw]; decide) rfl (by decide) rfl rfl (Nat.le_of_ble_eq_true rfl) dX1_readLabel_94 ?_
      refine g_pop C dX1_readLabel_97 rfl ?_
      refine g_aload_n C dX1_readLabel_98 rfl ?_
      refine g_iconst (v := 4) C dX1_readLabel_99 (by decide) ?_
      refine g_callVf C hts V (i := 4) (gX1_readLabel_X1_take) rfl hdX1_take (by decide) (Cf.to (c_X1_take (k := 4) hw hR hX (pm_I _ (t_take T 1 x)) l1 (hTb2.pm _) (by decide) (by decide)) rfl (pm_pm _ _ _)) (by rw [hw]; decide) rfl (by decide) rfl rfl (Nat.le_of_ble_eq_true rfl) dX1_readLabel_100 ?_
      refine g_pop C dX1_readLabel_103 rfl ?_
      exact g_vret C Rr ⟨rfl, ⟨rfl, rfl, hfin, hfF, fun a b q1 q2 => up2_n1 _ _ q1⟩⟩ dX1_readLabel_104
    · have hlab3 : t_lab T A.length (x, L) = (t_flt T 3 x, L) := by
        unfold t_lab
        rw [if_neg (by have := (nI_ltI (a := L.length) (b := 20) (by omega) (by decide)).mp c6; show ¬ 20 ≤ L.length; omega)]
        rcases hf : lfd L (tW T x.1) with _ | h
        · rw [hf] at c34; exact absurd rfl c34
        · rfl
      refine g_aload_n C dX1_readLabel_37 rfl ?_
      refine g_iconst (v := 3) C dX1_readLabel_38 (by decide) ?_
      refine g_callVf C hts V (i := 4) (gX1_readLabel_X1_setFault) rfl hdX1_setFault (by decide) (c_X1_setFault hw hR hat hn) (by rw [hw]; decide) rfl (by decide) rfl rfl (Nat.le_of_ble_eq_true rfl) dX1_readLabel_39 ?_
      refine g_goto (tgt := 104) C dX1_readLabel_42 (by decide) ?_
      exact g_vret C Rr ⟨rfl, ⟨rfl, rfl, by rw [pm_flt hp en.2.1]; rw [hlab3] at hoT ⊢; exact hs.flt (by show ¬ (3 : Int32) = 0; decide) hoT, by rw [pm_flt (T := T) hp en.2.1]; exact pF.pm ip _, pJ.rf J⟩⟩ dX1_readLabel_104
  · have hlabF : t_lab T A.length (x, L) = (t_flt T 2 x, L) := by
      unfold t_lab
      exact if_pos (by rcases Nat.lt_or_ge L.length 20 with z | z; exact absurd (nI_lt (b := 20) z (by decide)) c6; exact z)
    refine g_aload_n C dX1_readLabel_9 rfl ?_
    refine g_iconst (v := 2) C dX1_readLabel_10 (by decide) ?_
    refine g_callVf C hts V (i := 4) (gX1_readLabel_X1_setFault) rfl hdX1_setFault (by decide) (c_X1_setFault hw hR hat hn) (by rw [hw]; decide) rfl (by decide) rfl rfl (Nat.le_of_ble_eq_true rfl) dX1_readLabel_11 ?_
    refine g_goto (tgt := 104) C dX1_readLabel_14 (by decide) ?_
    exact g_vret C Rr ⟨rfl, ⟨rfl, rfl, by rw [pm_flt hp en.2.1]; rw [hlabF] at hoT ⊢; exact hs.flt (by show ¬ (2 : Int32) = 0; decide) hoT, by rw [pm_flt (T := T) hp en.2.1]; exact pF.pm ip _, pJ.rf J⟩⟩ dX1_readLabel_104
