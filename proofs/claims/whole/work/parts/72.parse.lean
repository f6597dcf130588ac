/-! THE PARSER: parse, exchange; program -/
section GT
variable {X : gX} {own : String} {cc : ByteArray} {a b pc : Nat} {w : gw} {M : Nat → Nat → Int32} {J : Nat → Nat → Int64} {R : Nat → Nat → Option Nat} {lv : List (Option Value)} {rest : List Value}
theorem upR (R : Nat → Nat → Option Nat) (ad : Nat → Nat) (i k j : Nat) : va_up (fun y => (R i y).map ad) k (some (ad j)) = fun y => (up2 R i k (some j) i y).map ad := by
  funext y
  unfold va_up up2
  by_cases h : y = k
  · rw [if_pos h, if_pos ⟨rfl, h⟩]; rfl
  · rw [if_neg h, if_neg (fun z => h z.2)]
theorem g_aast (C : Cx X own cc) {i j : Nat} (hi : i < w.1) (hj : j < w.1) (hk : (kd i = 12 ∧ kd j = 2) ∨ (kd i = 13 ∧ kd j = 3)) {x : Int32} (hin : vp_in x (ln i)) (d : decode cc pc = .ok (.aastore, 1)) (kk : Gj X a b w M J (up2 R i x.toNatClampNeg (some j)) (pc + 1) lv rest) : Gj X a b w M J R pc lv (.ref (w.2.1 j) :: .int x :: .ref (w.2.1 i) :: rest) := by
  intro H locs ls h1 h2 h3 h4 h5 h6
  have he := gW_at (w := w) (M := M) (J := J) (R := R) hi
  have hv := gW_at (w := w) (M := M) (J := J) (R := R) hj
  rcases hk with ⟨k1, k2⟩ | ⟨k1, k2⟩
  · rw [gE_r k1 (Or.inl rfl)] at he
    rw [gE_o k2 (by decide)] at hv
    refine va_astq C.1 C.2.1 (gK_1 C h2 hi (by omega) (ty := .object (cR 2)) (by rw [k1]; rfl)) h1 (gD_of h3 h4) h5 i 0 j 2 he rfl hv (c_cl (by decide)) hin d (fun H1 locs1 g1 g2 g3 => ?_)
    rw [upR, gW_set (M' := M) (J' := J) (R' := up2 R i x.toNatClampNeg (some j)) (by rw [gE_r k1 (Or.inl rfl)]) (fun y hy => gE_ne rfl rfl (up2_row R _ hy))] at g1
    exact kk H1 locs1 ls g1 h2 h3 h4 g3 h6
  · rw [gE_r k1 (Or.inr rfl)] at he
    rw [gE_o k2 (by decide)] at hv
    refine va_astq C.1 C.2.1 (gK_1 C h2 hi (by omega) (ty := .object (cR 3)) (by rw [k1]; rfl)) h1 (gD_of h3 h4) h5 i 0 j 3 he rfl hv (c_cl (by decide)) hin d (fun H1 locs1 g1 g2 g3 => ?_)
    rw [upR, gW_set (M' := M) (J' := J) (R' := up2 R i x.toNatClampNeg (some j)) (by rw [gE_r k1 (Or.inr rfl)]) (fun y hy => gE_ne rfl rfl (up2_row R _ hy))] at g1
    exact kk H1 locs1 ls g1 h2 h3 h4 g3 h6
end GT
def qF2 (ip : Nat) (M M' : Nat → Nat → Int32) : Prop := ∀ x y, ¬ (x = 4 ∧ 6 ≤ y) → ¬ (x = 5 ∧ y = 3) → ¬ x = 6 → ¬ x = 7 → ¬ x = 11 → ¬ x = 13 → ¬ (ip ≤ x ∧ x ≤ ip + 4) → M' x y = M x y
def qJ2 (J J' : Nat → Nat → Int64) : Prop := ∀ x y, ¬ x = 8 → ¬ x = 10 → ¬ x = 12 → J' x y = J x y
theorem qF2.p {ip : Nat} {M M' M2 : Nat → Nat → Int32} (h : qF2 ip M M') (g : pF ip M' M2) : qF2 ip M M2 := fun x y a b c d e f k => (g x y a e f k).trans (h x y a b c d e f k)
theorem qJ2.p {J J' J2 : Nat → Nat → Int64} (h : qJ2 J J') (g : pJ J' J2) : qJ2 J J2 := fun x y a b c => (g x y b c).trans (h x y a b c)
/-- what parse leaves -/
def parP (ip : Nat) (T : List Int32) (u : Nat → Nat → Int32) : Prop := u 4 9 = (PARSE T).1 ∧ u 4 10 = (PARSE T).2.1 ∧ ((PARSE T).1 = 0 → progIs u ip (PARSE T).2.2)
theorem parP_f {ip : Nat} {T : List Int32} {M : Nat → Nat → Int32} {J : Nat → Nat → Int64} (h : stC ip T M J (LINES T)) (h0 : ¬ (LINES T).1.2.1 = 0) : parP ip T M := by
  have e : PARSE T = ((LINES T).1.2.1, (LINES T).1.2.2, []) := by unfold PARSE t_end; rw [if_neg h0]
  unfold parP
  rw [e]
  exact ⟨h.1.2.1, h.1.2.2, fun z => absurd z h0⟩
theorem parP_g {ip : Nat} {T : List Int32} {M u : Nat → Nat → Int32} (h0 : (LINES T).1.2.1 = 0) (h : wanP ip M (LINES T).1 (LINES T).2.1 (LINES T).2.2 u) : parP ip T u := by
  unfold parP
  rcases hf : hfd (noL (LINES T).2.1 (LINES T).2.2) (LINES T).2.2.length with _ | k
  · have e : PARSE T = (0, (LINES T).1.2.2, (LINES T).2.2.map (rs (LINES T).2.1)) := by unfold PARSE t_end; rw [if_pos h0, hf]
    rw [e]
    have := h.2.1 hf
    exact ⟨this.1, this.2.1, fun _ => this.2.2⟩
  · have e : PARSE T = (4, ((LINES T).2.2.getD k dA).2.2, []) := by unfold PARSE t_end; rw [if_pos h0, hf]
    rw [e]
    have := h.1 k hf
    exact ⟨this.1, this.2, fun z => absurd z (by dsimp only; decide)⟩

set_option maxHeartbeats 4000000 in
set_option maxRecDepth 100000 in
theorem c_X1_parse {l : Launch} {D : va_G} {w : gw} {M : Nat → Nat → Int32} {J : Nat → Nat → Int64} {R : Nat → Nat → Option Nat} (hw : w.1 = 166) (hR : LayC R) {ip : Nat} (hip : isProg w R ip) (hi8 : R 4 8 = some ip) (h13 : 13 < ip) {T : List Int32} (hX : okX T) (hI : rowIs M 1 T) (hJ : namC J) : Ct l yX1_parse wsX1_parse ({ frames := 5, cells := 0, slots := 0, locals := 107 } : Room) D w [.ref (w.2.1 4), .ref (w.2.1 1)] (M, J, R) (fun v u => v = none ∧ u.2.2 = R ∧ parP ip T u.1 ∧ qF2 ip M u.1 ∧ qJ2 J u.2.1) := by
  obtain ⟨ip_hi4, ip_k, ip_k1, ip_k2, ip_k3, ip_k4, ip_l1, ip_l2, ip_l3, ip_l4, ip_r0, ip_r1, ip_r2, ip_r3⟩ := id hip
  have ip_hi : ip < w.1 := by omega
  have ip_hi1 : ip + 1 < w.1 := by omega
  have ip_hi2 : ip + 2 < w.1 := by omega
  have ip_hi3 : ip + 3 < w.1 := by omega
  refine Cg.of (own := RX1) (cc := cX1_parse) (maxL := 4) (ret := none) 2 (by decide) rfl rfl (Nat.le_of_ble_eq_true rfl) (fun X C hts V Rr => ?_)
  have F1 : FW X 1 := fun q h => hts q (List.mem_cons_of_mem _ (List.mem_append_left _ (List.mem_append_left _ (List.mem_append_left _ (List.mem_append_right _ h)))))
  have F2 : FW X 2 := fun q h => hts q (List.mem_cons_of_mem _ (List.mem_append_left _ (List.mem_append_left _ (List.mem_append_right _ h))))
  have F5 : FW X 5 := fun q h => hts q (List.mem_cons_of_mem _ (List.mem_append_left _ (List.mem_append_right _ h)))
  have F3 : FW X 3 := fun q h => hts q (List.mem_cons_of_mem _ (List.mem_append_right _ h))
  show Gj X 0 0 w M J R 0 [some (.ref (w.2.1 4)), some (.ref (w.2.1 1)), none, none] []
  have t62 : ∀ m n M0 J0, stC ip T M0 J0 (LINES T) → qF2 ip M M0 → qJ2 J J0 → Gj X 0 0 w M0 J0 R 62 [some (.ref (w.2.1 4)), some (.ref (w.2.1 1)), some (.int m), some (.int (nI n))] [] := by
    intro m n M0 J0 q1 q2 q3
    refine g_aload_n C dX1_parse_62 rfl ?_
    refine g_geti (v := (LINES T).1.2.1) C F1 (by rw [hw]; decide) rfl (by decide) 9 (by decide) rfl (hts (.fieldLink RX1 49 "FallBench$Parser" "faultKind" "I") (by decide +kernel)) rfl q1.1.2.1 dX1_parse_63 ?_
    refine g_if_ne (tgt := 73) C dX1_parse_66 (by decide) (fun c66 => ?_) (fun c66 => ?_)
    · exact g_vret C Rr ⟨rfl, ⟨rfl, rfl, parP_f q1 c66, q2, q3⟩⟩ dX1_parse_73
    · refine g_aload_n C dX1_parse_69 rfl ?_
      refine g_callVt C hts V (i := 4) (gX1_parse_X1_findWanted) rfl hdX1_findWanted (by decide) (c_X1_findWanted (x := (LINES T).1) (L := (LINES T).2.1) (A := (LINES T).2.2) hw hR hip hi8 h13 hX q1 c66) (by rw [hw]; decide) rfl (by decide) rfl rfl (Nat.le_of_ble_eq_true rfl) dX1_parse_70 (fun v M1 J1 R1 h => ?_)
      obtain ⟨h0, hR1, hJ1, hwp⟩ := h
      subst h0
      have hR1 := Eq.symm hR1
      subst hR1
      have hJ1 := Eq.symm hJ1
      subst hJ1
      dsimp only at hwp
      exact g_vret C Rr ⟨rfl, ⟨rfl, rfl, parP_g c66 hwp, q2.p hwp.2.2, q3⟩⟩ dX1_parse_73
  have fin : ∀ n M0 J0, stC ip T M0 J0 (LINES T) → qF2 ip M M0 → qJ2 J J0 → Gj X 0 0 w M0 J0 R 40 [some (.ref (w.2.1 4)), some (.ref (w.2.1 1)), some (.int 0), some (.int (nI n))] [] := by
    intro n M0 J0 q1 q2 q3
    refine g_iload_n C dX1_parse_40 rfl ?_
    refine g_sipush (v := 1000) C dX1_parse_41 (by decide) ?_
    refine g_icmp_gt (tgt := 62) C dX1_parse_44 (by decide) (fun c44 => ?_) (fun c44 => ?_)
    · exact t62 0 n M0 J0 q1 q2 q3
    · refine g_iload_n C dX1_parse_47 rfl ?_
      refine g_if_eq (tgt := 62) C dX1_parse_48 (by decide) (fun c48 => ?_) (fun c48 => absurd c48 (not_not_intro rfl))
      exact t62 0 n M0 J0 q1 q2 q3
  have loop : ∀ f n M0 J0 s, n + f = 1001 → stC ip T M0 J0 s → qF2 ip M M0 → qJ2 J J0 → t_lines T f s = LINES T → Gj X 0 0 w M0 J0 R 40 [some (.ref (w.2.1 4)), some (.ref (w.2.1 1)), some (.int 1), some (.int (nI n))] [] := by
    intro f
    induction f with
    | zero =>
      intro n M0 J0 s hn q1 q2 q3 q4
      obtain rfl : n = 1001 := by omega
      refine g_iload_n C dX1_parse_40 rfl ?_
      refine g_sipush (v := 1000) C dX1_parse_41 (by decide) ?_
      refine g_icmp_gt (tgt := 62) C dX1_parse_44 (by decide) (fun c44 => ?_) (fun c44 => absurd c44 (not_not_intro (by decide)))
      exact t62 1 1001 M0 J0 (by rw [← q4]; exact q1) q2 q3
    | succ f ih =>
      intro n M0 J0 s hn q1 q2 q3 q4
      refine g_iload_n C dX1_parse_40 rfl ?_
      refine g_sipush (v := 1000) C dX1_parse_41 (by decide) ?_
      refine g_icmp_gt (tgt := 62) C dX1_parse_44 (by decide) (fun c44 => absurd c44 (fun z => absurd ((nI_ltI (a := 1000) (b := n) (by decide) (by omega)).mp z) (by omega))) (fun c44 => ?_)
      refine g_iload_n C dX1_parse_47 rfl ?_
      refine g_if_eq (tgt := 62) C dX1_parse_48 (by decide) (fun c48 => absurd c48 (by decide)) (fun c48 => ?_)
      refine g_aload_n C dX1_parse_51 rfl ?_
      refine g_callVt C hts V (i := 4) (gX1_parse_X1_readLine) rfl hdX1_readLine (by decide) (c_X1_readLine (x := s.1) (L := s.2.1) (A := s.2.2) hw hR hip hi8 h13 hX q1) (by rw [hw]; decide) rfl (by decide) rfl rfl (Nat.le_of_ble_eq_true rfl) dX1_parse_52 (fun v M1 J1 R1 h => ?_)
      obtain ⟨h0, hR1, hst, hF1, hJ1⟩ := h
      subst h0
      have hR1 := Eq.symm hR1
      subst hR1
      dsimp only at hst hF1 hJ1
      refine g_istore_n C V.2.1 dX1_parse_55 (by decide) rfl ?_
      refine g_iinc (v := nI (n + 1)) C V.2.1 dX1_parse_56 rfl (nI_succ n).symm (by decide) rfl ?_
      refine g_goto (tgt := 40) C dX1_parse_59 (by decide) ?_
      by_cases hg : t_go T s = true
      · rw [show t_go T (s.1, s.2.1, s.2.2) = true from hg]
        exact ih (n + 1) _ _ _ (by omega) hst (q2.p hF1) (q3.p hJ1) (by rw [← q4]; exact (if_pos hg).symm)
      · have hg2 : t_go T (s.1, s.2.1, s.2.2) = false := by simpa using hg
        rw [hg2]
        exact fin (n + 1) _ _ (by rw [← q4, show t_lines T (f + 1) s = t_line T s from if_neg hg]; exact hst) (q2.p hF1) (q3.p hJ1)
  have hI1 : rowIs (up2 (up2 (up2 (up2 (up2 M ip 4 0) 4 6 0) 4 7 0) 4 9 0) 4 10 (-1)) 1 T := hI.o (fun x y q1 q2 => by rw [up2_n1 _ _ (by omega), up2_n1 _ _ (by omega), up2_n1 _ _ (by omega), up2_n1 _ _ (by omega), up2_n1 _ _ (by omega)])
  refine g_aload_n C dX1_parse_0 rfl ?_
  refine g_getr (j := ip) C F1 (by rw [hw]; decide) rfl (by decide) 8 (by decide) rfl (hts (.fieldLink RX1 45 "FallBench$Parser" "into" "LFallBench$Program;") (by decide +kernel)) rfl hi8 dX1_parse_1 ?_
  refine g_iconst (v := 0) C dX1_parse_4 (by decide) ?_
  refine g_puti C F2 ip_hi ip_k (by decide) 4 (by decide) rfl (hts (.fieldLink RX1 71 "FallBench$Program" "count" "I") (by decide +kernel)) rfl rfl rfl rfl dX1_parse_5 ?_
  refine g_aload_n C dX1_parse_8 rfl ?_
  refine g_iconst (v := 0) C dX1_parse_9 (by decide) ?_
  refine g_puti C F1 (by rw [hw]; decide) rfl (by decide) 6 (by decide) rfl (hts (.fieldLink RX1 35 "FallBench$Parser" "labelCount" "I") (by decide +kernel)) rfl rfl rfl rfl dX1_parse_10 ?_
  refine g_aload_n C dX1_parse_13 rfl ?_
  refine g_iconst (v := 0) C dX1_parse_14 (by decide) ?_
  refine g_puti C F1 (by rw [hw]; decide) rfl (by decide) 7 (by decide) rfl (hts (.fieldLink RX1 39 "FallBench$Parser" "at" "I") (by decide +kernel)) rfl rfl rfl rfl dX1_parse_15 ?_
  refine g_aload_n C dX1_parse_18 rfl ?_
  refine g_iconst (v := 0) C dX1_parse_19 (by decide) ?_
  refine g_puti C F1 (by rw [hw]; decide) rfl (by decide) 9 (by decide) rfl (hts (.fieldLink RX1 49 "FallBench$Parser" "faultKind" "I") (by decide +kernel)) rfl rfl rfl rfl dX1_parse_20 ?_
  refine g_aload_n C dX1_parse_23 rfl ?_
  refine g_iconst (v := (-1)) C dX1_parse_24 (by decide) ?_
  refine g_puti C F1 (by rw [hw]; decide) rfl (by decide) 10 (by decide) rfl (hts (.fieldLink RX1 52 "FallBench$Parser" "faultPlace" "I") (by decide +kernel)) rfl rfl rfl rfl dX1_parse_25 ?_
  refine g_aload_n C dX1_parse_28 rfl ?_
  refine g_getr (j := 5) C F1 (by rw [hw]; decide) rfl (by decide) 0 (by decide) rfl (hts (.fieldLink RX1 12 "FallBench$Parser" "tokens" "LFallBench$Tokens;") (by decide +kernel)) rfl (hR (4, 0, 5) (by decide)) dX1_parse_29 ?_
  refine g_aload_n C dX1_parse_32 rfl ?_
  refine g_callVt C hts V (i := 5) (gX1_parse_X5_readFrom) rfl hdX5_readFrom (by decide) (c_X5_readFrom hw hR hX hI1) (by rw [hw]; decide) rfl (by decide) rfl rfl (Nat.le_of_ble_eq_true rfl) dX1_parse_33 (fun v M1 J1 R1 h => ?_)
  obtain ⟨h0, hR1, hTb, hF1, hJ1⟩ := h
  subst h0
  have hR1 := Eq.symm hR1
  subst hR1
  dsimp only at hTb hF1 hJ1
  refine g_iconst (v := 1) C dX1_parse_36 (by decide) ?_
  refine g_istore_n C V.2.1 dX1_parse_37 (by decide) rfl ?_
  refine g_iconst (v := 0) C dX1_parse_38 (by decide) ?_
  refine g_istore_n C V.2.1 dX1_parse_39 (by decide) rfl ?_
  refine loop 1001 0 M1 J1 ((0, 0, -1), [], []) (by decide) ⟨⟨?_, ?_, ?_⟩, hTb, okS_0 T, fun k hk => (hJ1 9 k (by decide)).trans (hJ k hk), fun _ => ⟨⟨?_, fun j hj => absurd hj (Nat.not_lt_zero j)⟩, ⟨?_, fun j hj => absurd hj (Nat.not_lt_zero j)⟩, fun j hj => absurd hj (Nat.not_lt_zero j), fun j hj => absurd hj (Nat.not_lt_zero j)⟩⟩ (fun x y a1 a2 a3 a4 a5 a6 a7 => ?_) (fun x y a1 a2 a3 => hJ1 x y a1) rfl
  · rw [hF1 4 7 (by omega) (by decide) (by decide), up2_n2 _ _ (by decide), up2_n2 _ _ (by decide), up2_eq]; rfl
  · rw [hF1 4 9 (by omega) (by decide) (by decide), up2_n2 _ _ (by decide), up2_eq]
  · rw [hF1 4 10 (by omega) (by decide) (by decide), up2_eq]
  · rw [hF1 4 6 (by omega) (by decide) (by decide), up2_n2 _ _ (by decide), up2_n2 _ _ (by decide), up2_n2 _ _ (by decide), up2_eq]; rfl
  · rw [hF1 ip 4 (by omega) (by omega) (by omega), up2_n1 _ _ (by omega), up2_n1 _ _ (by omega), up2_n1 _ _ (by omega), up2_n1 _ _ (by omega), up2_eq]; rfl
  · rw [hF1 x y a2 a3 a4, up2_nb (by omega), up2_nb (by omega), up2_nb (by omega), up2_nb (by omega), up2_n1 _ _ (by omega)]

set_option maxHeartbeats 4000000 in
set_option maxRecDepth 100000 in
theorem c_X1_exchange {l : Launch} {D : va_G} {w : gw} {M : Nat → Nat → Int32} {J : Nat → Nat → Int64} {R : Nat → Nat → Option Nat} (hw : w.1 = 166) (hR : LayC R) {ip q : Nat} (hip : isProg w R ip) (hi8 : R 4 8 = some ip) : Cf l yX1_exchange wsX1_exchange ({ frames := 0, cells := 0, slots := 0, locals := 0 } : Room) D w [.ref (w.2.1 4), .ref (w.2.1 q)] M J R (some (.ref (w.2.1 ip))) M J (up2 R 4 8 (some q)) := by
  obtain ⟨ip_hi4, ip_k, ip_k1, ip_k2, ip_k3, ip_k4, ip_l1, ip_l2, ip_l3, ip_l4, ip_r0, ip_r1, ip_r2, ip_r3⟩ := id hip
  have ip_hi : ip < w.1 := by omega
  have ip_hi1 : ip + 1 < w.1 := by omega
  have ip_hi2 : ip + 2 < w.1 := by omega
  have ip_hi3 : ip + 3 < w.1 := by omega
  refine Cg.of (own := RX1) (cc := cX1_exchange) (maxL := 3) (ret := (some (.object "FallBench$Program"))) 1 (by decide) rfl rfl (Nat.le_of_ble_eq_true rfl) (fun X C hts V Rr => ?_)
  have F1 : FW X 1 := fun q h => hts q (List.mem_cons_of_mem _ (List.mem_append_right _ h))
  show Gj X 0 0 w M J R 0 [some (.ref (w.2.1 4)), some (.ref (w.2.1 q)), none] []
  refine g_aload_n C dX1_exchange_0 rfl ?_
  refine g_getr (j := ip) C F1 (by rw [hw]; decide) rfl (by decide) 8 (by decide) rfl (hts (.fieldLink RX1 45 "FallBench$Parser" "into" "LFallBench$Program;") (by decide +kernel)) rfl hi8 dX1_exchange_1 ?_
  refine g_astore_n C V.2.1 dX1_exchange_4 (by decide) rfl ?_
  refine g_aload_n C dX1_exchange_5 rfl ?_
  refine g_aload_n C dX1_exchange_6 rfl ?_
  refine g_putr C F1 (by rw [hw]; decide) rfl (by decide) 8 (by decide) rfl (hts (.fieldLink RX1 45 "FallBench$Parser" "into" "LFallBench$Program;") (by decide +kernel)) rfl rfl rfl rfl dX1_exchange_7 ?_
  refine g_aload_n C dX1_exchange_10 rfl ?_
  exact g_aret C Rr (Or.inl ⟨_, rfl⟩) ⟨rfl, ⟨rfl, rfl⟩⟩ dX1_exchange_11

set_option maxHeartbeats 4000000 in
set_option maxRecDepth 100000 in
theorem c_X7_program_no {l : Launch} {D : va_G} {w : gw} {M : Nat → Nat → Int32} {J : Nat → Nat → Int64} {R : Nat → Nat → Option Nat} (hw : w.1 = 166) (hR : LayC R) {s : Int32} (hno : isSh s = 0) : Cf l yX7_program wsX7_program ({ frames := 6, cells := 0, slots := 0, locals := 130 } : Room) D w [.ref (w.2.1 0), .int s] M J R (some (.int (-2))) M J R := by
  refine Cg.of (own := RX7) (cc := cX7_program) (maxL := 2) (ret := (some .int)) 0 (by decide) rfl rfl (Nat.le_of_ble_eq_true rfl) (fun X C hts V Rr => ?_)
  have F7 : FW X 7 := fun q h => hts q (List.mem_cons_of_mem _ (List.mem_append_left _ (List.mem_append_left _ (List.mem_append_left _ (List.mem_append_left _ (List.mem_append_right _ h))))))
  have F3 : FW X 3 := fun q h => hts q (List.mem_cons_of_mem _ (List.mem_append_left _ (List.mem_append_left _ (List.mem_append_left _ (List.mem_append_right _ h)))))
  have F1 : FW X 1 := fun q h => hts q (List.mem_cons_of_mem _ (List.mem_append_left _ (List.mem_append_left _ (List.mem_append_right _ h))))
  have F2 : FW X 2 := fun q h => hts q (List.mem_cons_of_mem _ (List.mem_append_left _ (List.mem_append_right _ h)))
  have F5 : FW X 5 := fun q h => hts q (List.mem_cons_of_mem _ (List.mem_append_right _ h))
  show Gj X 0 0 w M J R 0 [some (.ref (w.2.1 0)), some (.int s)] []
  refine g_iload_n C dX7_program_0 rfl ?_
  refine g_callSf C hts V (gX7_program_X7_isShelf) rfl hdX7_isShelf (by decide) c_X7_isShelf rfl rfl (Nat.le_of_ble_eq_true rfl) dX7_program_1 ?_
  refine g_if_ne (tgt := 10) C dX7_program_4 (by decide) (fun c4 => absurd c4 (not_not_intro hno)) (fun c4 => ?_)
  refine g_bipush (v := (-2)) C dX7_program_7 (by decide) ?_
  exact g_iret C Rr ⟨rfl, ⟨rfl, rfl⟩⟩ dX7_program_9

theorem parP.o {ip : Nat} {T : List Int32} {u u' : Nat → Nat → Int32} (h : parP ip T u) (e4 : ∀ y, u' 4 y = u 4 y) (e : ∀ a b, ip ≤ a → a ≤ ip + 4 → u' a b = u a b) : parP ip T u' := ⟨(e4 9).trans h.1, (e4 10).trans h.2.1, fun z => (h.2.2 z).o e⟩
theorem sh_no {s : Nat} (hs : s < 3) : ¬ isSh (nI s) = 0 := by
  have h : ∀ s, s < 3 → ¬ isSh (nI s) = 0 := by decide
  exact h s hs

set_option maxHeartbeats 4000000 in
set_option maxRecDepth 100000 in
theorem c_X7_program {l : Launch} {D : va_G} {w : gw} {M : Nat → Nat → Int32} {J : Nat → Nat → Int64} {R : Nat → Nat → Option Nat} (hw : w.1 = 166) (hR : LayC R) {π : Nat → Nat} (hS : ∀ k, k < 3 → R 3 k = some (π k) ∧ isProg w R (π k)) {ip : Nat} (hip : isProg w R ip) (hi8 : R 4 8 = some ip) (h13 : 13 < ip) {T : List Int32} (hX : okX T) (hI : rowIs M 1 T) (hJ : namC J) {s : Nat} (hs : s < 3) : Ct l yX7_program wsX7_program ({ frames := 6, cells := 0, slots := 0, locals := 130 } : Room) D w [.ref (w.2.1 0), .int (nI s)] (M, J, R) (fun v u => v = some (.int (if (PARSE T).1 = 0 then nI (PARSE T).2.2.length else -1)) ∧ u.2.2 = (if (PARSE T).1 = 0 then (up2 (up2 R 4 8 (some (π s))) 3 s (some ip)) else R) ∧ parP ip T u.1 ∧ u.1 1 1 = 0 ∧ (∀ x y, ¬ (x = 4 ∧ 6 ≤ y) → ¬ (x = 5 ∧ y = 3) → ¬ x = 6 → ¬ x = 7 → ¬ x = 11 → ¬ x = 13 → ¬ (ip ≤ x ∧ x ≤ ip + 4) → ¬ (x = 1 ∧ y = 1) → u.1 x y = M x y) ∧ qJ2 J u.2.1) := by
  obtain ⟨ip_hi4, ip_k, ip_k1, ip_k2, ip_k3, ip_k4, ip_l1, ip_l2, ip_l3, ip_l4, ip_r0, ip_r1, ip_r2, ip_r3⟩ := id hip
  have ip_hi : ip < w.1 := by omega
  have ip_hi1 : ip + 1 < w.1 := by omega
  have ip_hi2 : ip + 2 < w.1 := by omega
  have ip_hi3 : ip + 3 < w.1 := by omega
  refine Cg.of (own := RX7) (cc := cX7_program) (maxL := 2) (ret := (some .int)) 0 (by decide) rfl rfl (Nat.le_of_ble_eq_true rfl) (fun X C hts V Rr => ?_)
  have F7 : FW X 7 := fun q h => hts q (List.mem_cons_of_mem _ (List.mem_append_left _ (List.mem_append_left _ (List.mem_append_left _ (List.mem_append_left _ (List.mem_append_right _ h))))))
  have F3 : FW X 3 := fun q h => hts q (List.mem_cons_of_mem _ (List.mem_append_left _ (List.mem_append_left _ (List.mem_append_left _ (List.mem_append_right _ h)))))
  have F1 : FW X 1 := fun q h => hts q (List.mem_cons_of_mem _ (List.mem_append_left _ (List.mem_append_left _ (List.mem_append_right _ h))))
  have F2 : FW X 2 := fun q h => hts q (List.mem_cons_of_mem _ (List.mem_append_left _ (List.mem_append_right _ h)))
  have F5 : FW X 5 := fun q h => hts q (List.mem_cons_of_mem _ (List.mem_append_right _ h))
  show Gj X 0 0 w M J R 0 [some (.ref (w.2.1 0)), some (.int (nI s))] []
  refine g_iload_n C dX7_program_0 rfl ?_
  refine g_callSf C hts V (gX7_program_X7_isShelf) rfl hdX7_isShelf (by decide) c_X7_isShelf rfl rfl (Nat.le_of_ble_eq_true rfl) dX7_program_1 ?_
  refine g_if_ne (tgt := 10) C dX7_program_4 (by decide) (fun c4 => ?_) (fun c4 => absurd c4 (sh_no hs))
  refine g_aload_n C dX7_program_10 rfl ?_
  refine g_getr (j := 4) C F7 (by rw [hw]; decide) rfl (by decide) 2 (by decide) rfl (hts (.fieldLink RX7 27 "FallBench" "parser" "LFallBench$Parser;") (by decide +kernel)) rfl (hR (0, 2, 4) (by decide)) dX7_program_11 ?_
  refine g_aload_n C dX7_program_14 rfl ?_
  refine g_getr (j := 1) C F7 (by rw [hw]; decide) rfl (by decide) 0 (by decide) rfl (hts (.fieldLink RX7 14 "FallBench" "tape" "LFallBench$Row;") (by decide +kernel)) rfl (hR (0, 0, 1) (by decide)) dX7_program_15 ?_
  refine g_callVt C hts V (i := 4) (gX7_program_X1_parse) rfl hdX1_parse (by decide) (c_X1_parse hw hR hip hi8 h13 hX hI hJ) (by rw [hw]; decide) rfl (by decide) rfl rfl (Nat.le_of_ble_eq_true rfl) dX7_program_18 (fun v M1 J1 R1 h => ?_)
  obtain ⟨h0, hR1, hP, hF1, hJ1⟩ := h
  subst h0
  have hR1 := Eq.symm hR1
  subst hR1
  dsimp only at hP hF1 hJ1
  refine g_aload_n C dX7_program_21 rfl ?_
  refine g_getr (j := 1) C F7 (by rw [hw]; decide) rfl (by decide) 0 (by decide) rfl (hts (.fieldLink RX7 14 "FallBench" "tape" "LFallBench$Row;") (by decide +kernel)) rfl (hR (0, 0, 1) (by decide)) dX7_program_22 ?_
  refine g_iconst (v := 0) C dX7_program_25 (by decide) ?_
  refine g_puti C F3 (by rw [hw]; decide) rfl (by decide) 1 (by decide) rfl (hts (.fieldLink RX7 71 "FallBench$Row" "length" "I") (by decide +kernel)) rfl rfl rfl rfl dX7_program_26 ?_
  refine g_aload_n C dX7_program_29 rfl ?_
  refine g_getr (j := 4) C F7 (by rw [hw]; decide) rfl (by decide) 2 (by decide) rfl (hts (.fieldLink RX7 27 "FallBench" "parser" "LFallBench$Parser;") (by decide +kernel)) rfl (hR (0, 2, 4) (by decide)) dX7_program_30 ?_
  refine g_geti (v := (PARSE T).1) C F1 (by rw [hw]; decide) rfl (by decide) 9 (by decide) rfl (hts (.fieldLink RX7 85 "FallBench$Parser" "faultKind" "I") (by decide +kernel)) rfl (by rw [up2_n1 _ _ (by decide)]; exact hP.1) dX7_program_33 ?_
  refine g_if_eq (tgt := 41) C dX7_program_36 (by decide) (fun c36 => ?_) (fun c36 => ?_)
  · refine g_aload_n C dX7_program_41 rfl ?_
    refine g_getr (j := 3) C F7 (by rw [hw]; decide) rfl (by decide) 1 (by decide) rfl (hts (.fieldLink RX7 20 "FallBench" "shelves" "[LFallBench$Program;") (by decide +kernel)) rfl (hR (0, 1, 3) (by decide)) dX7_program_42 ?_
    refine g_iload_n C dX7_program_45 rfl ?_
    refine g_aload_n C dX7_program_46 rfl ?_
    refine g_getr (j := 4) C F7 (by rw [hw]; decide) rfl (by decide) 2 (by decide) rfl (hts (.fieldLink RX7 27 "FallBench" "parser" "LFallBench$Parser;") (by decide +kernel)) rfl (hR (0, 2, 4) (by decide)) dX7_program_47 ?_
    refine g_aload_n C dX7_program_50 rfl ?_
    refine g_getr (j := 3) C F7 (by rw [hw]; decide) rfl (by decide) 1 (by decide) rfl (hts (.fieldLink RX7 20 "FallBench" "shelves" "[LFallBench$Program;") (by decide +kernel)) rfl (hR (0, 1, 3) (by decide)) dX7_program_51 ?_
    refine g_iload_n C dX7_program_54 rfl ?_
    refine g_aald (j := (π s)) C (by rw [hw]; decide) (by decide) (vp_in_nI (N := 3) hs (by decide)) (by rw [nI_clamp (by omega)]; exact (hS s hs).1) dX7_program_55 ?_
    refine g_callVf C hts V (i := 4) (gX7_program_X1_exchange) rfl hdX1_exchange (by decide) (c_X1_exchange (q := π s) hw hR hip hi8) (by rw [hw]; decide) rfl (by decide) rfl rfl (Nat.le_of_ble_eq_true rfl) dX7_program_56 ?_
    refine g_aast C (by rw [hw]; decide) ip_hi (by first | decide | (left; exact ⟨rfl, ip_k⟩) | (right; exact ⟨rfl, ip_k⟩)) (vp_in_nI (N := 3) hs (by decide)) dX7_program_59 ?_
    rw [nI_clamp (show s < 2 ^ 31 by omega)]
    refine g_aload_n C dX7_program_60 rfl ?_
    refine g_getr (j := 3) C F7 (by rw [hw]; decide) rfl (by decide) 1 (by decide) rfl (hts (.fieldLink RX7 20 "FallBench" "shelves" "[LFallBench$Program;") (by decide +kernel)) rfl (hR (0, 1, 3) (by decide)) dX7_program_61 ?_
    refine g_iload_n C dX7_program_64 rfl ?_
    refine g_aald (j := ip) C (by rw [hw]; decide) (by decide) (vp_in_nI (N := 3) hs (by decide)) (by rw [nI_clamp (by omega), up2_eq]) dX7_program_65 ?_
    refine g_geti (v := nI (PARSE T).2.2.length) C F2 ip_hi ip_k (by decide) 4 (by decide) rfl (hts (.fieldLink RX7 92 "FallBench$Program" "count" "I") (by decide +kernel)) rfl (by rw [up2_n1 _ _ (by omega)]; exact (hP.2.2 c36).2.1) dX7_program_66 ?_
    exact g_iret C Rr ⟨rfl, ⟨by rw [if_pos c36], by rw [if_pos c36], (show parP ip T (up2 M1 1 1 0) from hP.o (fun y => up2_n1 _ _ (by decide)) (fun a b q1 q2 => up2_n1 _ _ (by omega))), (show up2 M1 1 1 0 1 1 = 0 from up2_eq _ _ _ _), (fun x y q1 q2 q3 q4 q5 q6 q7 q8 => show up2 M1 1 1 0 x y = M x y by rw [up2_nb (fun z => q8 z)]; exact hF1 x y q1 q2 q3 q4 q5 q6 q7), hJ1⟩⟩ dX7_program_69
  · refine g_iconst (v := (-1)) C dX7_program_39 (by decide) ?_
    exact g_iret C Rr ⟨rfl, ⟨by rw [if_neg c36], by rw [if_neg c36], (show parP ip T (up2 M1 1 1 0) from hP.o (fun y => up2_n1 _ _ (by decide)) (fun a b q1 q2 => up2_n1 _ _ (by omega))), (show up2 M1 1 1 0 1 1 = 0 from up2_eq _ _ _ _), (fun x y q1 q2 q3 q4 q5 q6 q7 q8 => show up2 M1 1 1 0 x y = M x y by rw [up2_nb (fun z => q8 z)]; exact hF1 x y q1 q2 q3 q4 q5 q6 q7), hJ1⟩⟩ dX7_program_40
