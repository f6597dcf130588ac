/-! THE REFERENCE'S PARSER: its state; register, readLabel -/
def nxI (T : List Int32) (M : Nat → Nat → Int32) (J : Nat → Nat → Int64) (n : Nat) : Prop := M 134 6 = tP T n ∧ M 134 8 = rk (tK T n) ∧ (¬ tK T n = 0 → M 134 7 = nI (tpos T (n + 1))) ∧ (tK T n = 2 ∨ tK T n = 3 → M 134 9 = tV T n) ∧ (tK T n = 1 → J 134 10 = enc8 (tW T n))
def pxM (T : List Int32) (M : Nat → Nat → Int32) (J : Nat → Nat → Int64) (x : px) : Prop := txM M T ∧ live T x.1 ∧ M 134 4 = x.2.1 ∧ M 134 5 = x.2.2 ∧ (x.2.1 = 0 → nxI T M J x.1)
def nfF (M M' : Nat → Nat → Int32) : Prop := ∀ x y, ¬ (x = 134 ∧ 4 ≤ y ∧ y ≤ 9) → M' x y = M x y
def nfJ (J J' : Nat → Nat → Int64) : Prop := ∀ x y, ¬ (x = 134 ∧ y = 10) → J' x y = J x y
theorem nfF.rf (M : Nat → Nat → Int32) : nfF M M := fun _ _ _ => rfl
theorem nfJ.rf (J : Nat → Nat → Int64) : nfJ J J := fun _ _ _ => rfl
theorem nfF.tr {M M' M2 : Nat → Nat → Int32} (h : nfF M M') (g : nfF M' M2) : nfF M M2 := fun x y a => (g x y a).trans (h x y a)
theorem nfJ.tr {J J' J2 : Nat → Nat → Int64} (h : nfJ J J') (g : nfJ J' J2) : nfJ J J2 := fun x y a => (g x y a).trans (h x y a)
theorem txM.F {T : List Int32} {M M' : Nat → Nat → Int32} (h : txM M T) (e3 : M' 134 3 = M 134 3) (e : ∀ k, M' 136 k = M 136 k) : txM M' T := ⟨e3.trans h.1, fun k hk => by rw [e k]; exact h.2 k hk⟩
theorem nxI.o {T : List Int32} {M M' : Nat → Nat → Int32} {J J' : Nat → Nat → Int64} {n : Nat} (h : nxI T M J n) (e : ∀ y, 6 ≤ y → y ≤ 9 → M' 134 y = M 134 y) (e10 : J' 134 10 = J 134 10) : nxI T M' J' n := ⟨(e 6 (by decide) (by decide)).trans h.1, (e 8 (by decide) (by decide)).trans h.2.1, fun z => (e 7 (by decide) (by decide)).trans (h.2.2.1 z), fun z => (e 9 (by decide) (by decide)).trans (h.2.2.2.1 z), fun z => e10.trans (h.2.2.2.2 z)⟩
theorem pxM.o {T : List Int32} {M M' : Nat → Nat → Int32} {J J' : Nat → Nat → Int64} {x : px} (h : pxM T M J x) (e : ∀ y, 3 ≤ y → y ≤ 9 → M' 134 y = M 134 y) (e6 : ∀ k, M' 136 k = M 136 k) (e10 : J' 134 10 = J 134 10) : pxM T M' J' x := ⟨h.1.F (e 3 (by decide) (by decide)) e6, h.2.1, (e 4 (by decide) (by decide)).trans h.2.2.1, (e 5 (by decide) (by decide)).trans h.2.2.2.1, fun z => (h.2.2.2.2 z).o (fun y a b => e y (by omega) b) e10⟩
theorem px_next {T : List Int32} {M m : Nat → Nat → Int32} {J j : Nat → Nat → Int64} {x : px} (h : pxM T M J x) (h0 : x.2.1 = 0) (k0 : ¬ tK T x.1 = 0) (k6 : ¬ tK T x.1 = 6) (hN : nxP T (skp T (tpos T (x.1 + 1))) M J m j) : pxM T m j (x.1 + 1, 0, x.2.2) ∧ nfF M m ∧ nfJ J j := by
  obtain ⟨n6, n8, n7, n9, n10, nF, nJ⟩ := hN
  exact ⟨⟨h.1.F (nF 134 3 (by omega)) (fun k => nF 136 k (by omega)), live_s h.2.1 k0 k6, (nF 134 4 (by omega)).trans (h.2.2.1.trans h0), (nF 134 5 (by omega)).trans h.2.2.2.1, fun _ => ⟨n6, n8, n7, n9, n10⟩⟩, fun x y a => nF x y (fun z => a ⟨z.1, by omega⟩), nJ⟩
def wM (M : Nat → Nat → Int32) : Nat → Nat → Int32 := up2 (up2 M 134 4 (if M 134 8 = 1 then 1 else 2)) 134 5 (M 134 6)
theorem rk_inj {k c : Int32} (hc : ¬ c + 1 = 0) (h : ¬ k = c) : ¬ rk k = c + 1 := by
  unfold rk
  split
  · exact fun z => hc z.symm
  · exact fun z => h ((Int32.add_left_inj 1).mp z)
theorem rk_of {k c : Int32} (h6 : ¬ c = 6) (h : k = c) : rk k = c + 1 := by
  subst h; unfold rk; rw [if_neg h6]
theorem nf_w (M : Nat → Nat → Int32) (k p : Int32) : nfF M (up2 (up2 M 134 4 k) 134 5 p) := fun x y a => by rw [up2_nb (fun z => a ⟨z.1, by omega⟩), up2_nb (fun z => a ⟨z.1, by omega⟩)]
theorem px_flt {T : List Int32} {M : Nat → Nat → Int32} {J : Nat → Nat → Int64} {x y : px} {k p : Int32} (h : pxM T M J x) (hk : k = y.2.1) (hp : p = y.2.2) (hy : ¬ y.2.1 = 0) (hl : live T y.1) : pxM T (up2 (up2 M 134 4 k) 134 5 p) J y := ⟨h.1.F (nf_w M k p 134 3 (by omega)) (fun j => nf_w M k p 136 j (by omega)), hl, by rw [up2_n2 _ _ (by decide), up2_eq]; exact hk, by rw [up2_eq]; exact hp, fun z => absurd z hy⟩
theorem px_bad {T : List Int32} {M : Nat → Nat → Int32} {J : Nat → Nat → Int64} {x : px} (h : pxM T M J x) (h0 : x.2.1 = 0) : pxM T (wM M) J (t_bad T x) := by
  have hn := h.2.2.2.2 h0
  refine px_flt h ?_ hn.1 (t_bad_ne T x) h.2.1
  show (if M 134 8 = 1 then (1 : Int32) else 2) = if tK T x.1 = 0 then 1 else 2
  rw [hn.2.1]
  by_cases z : tK T x.1 = 0
  · rw [if_pos (show rk (tK T x.1) = 1 from rk_of (c := 0) (by decide) z), if_pos z]
  · rw [if_neg (show ¬ rk (tK T x.1) = 1 from rk_inj (c := 0) (by decide) z), if_neg z]
theorem px_good {T : List Int32} {M : Nat → Nat → Int32} {J : Nat → Nat → Int64} {x : px} (h : pxM T M J x) (h0 : x.2.1 = 0) : M 134 4 = 0 := h.2.2.1.trans h0
theorem px_ng {T : List Int32} {M : Nat → Nat → Int32} {J : Nat → Nat → Int64} {x : px} (h : pxM T M J x) (h0 : ¬ x.2.1 = 0) : ¬ M 134 4 = 0 := fun z => h0 (h.2.2.1.symm.trans z)

set_option maxHeartbeats 4000000 in
set_option maxRecDepth 100000 in
theorem c_X8_register {l : Launch} {D : va_G} {w : gw} {M : Nat → Nat → Int32} {J : Nat → Nat → Int64} {R : Nat → Nat → Option Nat} (hw : w.1 = 166) (hR : LayM R) {T : List Int32} (hX : okX T) {x : px} (hpx : pxM T M J x) : Ct l yX8_register wsX8_register ({ frames := 3, cells := 0, slots := 0, locals := 65 } : Room) D w [.ref (w.2.1 134)] (M, J, R) (fun v u => (∃ r : Int32, v = some (.int r) ∧ ((t_take T 2 x).2.1 = 0 → r = t_val T 2 x)) ∧ u.2.2 = R ∧ pxM T u.1 u.2.1 (t_take T 2 x) ∧ nfF M u.1 ∧ nfJ J u.2.1) := by
  refine Cg.of (own := RX8) (cc := cX8_register) (maxL := 2) (ret := (some .int)) 1 (by decide) rfl rfl (Nat.le_of_ble_eq_true rfl) (fun X C hts V Rr => ?_)
  have F8 : FW X 8 := fun q h => hts q (List.mem_cons_of_mem _ (List.mem_append_right _ h))
  show Gj X 0 0 w M J R 0 [some (.ref (w.2.1 134)), none] []
  by_cases h0 : x.2.1 = 0
  · have hn := hpx.2.2.2.2 h0
    by_cases hk : tK T x.1 = 2
    · refine g_aload_n C dX8_register_0 rfl ?_
      refine g_callVf C hts V (i := 134) (gX8_register_X8_isGood) rfl hdX8_isGood (by decide) (Cf.to (c_X8_isGood hw hR) (congrArg (fun z => some (Value.int z)) (show _ = (1 : Int32) from if_pos (px_good hpx h0))) rfl) (by rw [hw]; decide) rfl (by decide) rfl rfl (Nat.le_of_ble_eq_true rfl) dX8_register_1 ?_
      refine g_if_eq (tgt := 19) C dX8_register_4 (by decide) (fun c4 => absurd c4 (by decide)) (fun c4 => ?_)
      refine g_aload_n C dX8_register_7 rfl ?_
      refine g_geti C F8 (by rw [hw]; decide) rfl (by decide) 8 (by decide) rfl (hts (.fieldLink RX8 128 "FallBenchModel" "token" "I") (by decide +kernel)) rfl rfl dX8_register_8 ?_
      refine g_iconst (v := 3) C dX8_register_11 (by decide) ?_
      refine g_icmp_eq (tgt := 19) C dX8_register_12 (by decide) (fun c12 => ?_) (fun c12 => absurd c12 (not_not_intro (hn.2.1.trans (rk_of (c := 2) (by decide) hk))))
      refine g_aload_n C dX8_register_19 rfl ?_
      refine g_geti (v := tV T x.1) C F8 (by rw [hw]; decide) rfl (by decide) 9 (by decide) rfl (hts (.fieldLink RX8 138 "FallBenchModel" "number" "I") (by decide +kernel)) rfl (hn.2.2.2.1 (Or.inl hk)) dX8_register_20 ?_
      refine g_istore_n C V.2.1 dX8_register_23 (by decide) rfl ?_
      refine g_aload_n C dX8_register_24 rfl ?_
      refine g_callVf C hts V (i := 134) (gX8_register_X8_isGood) rfl hdX8_isGood (by decide) (Cf.to (c_X8_isGood hw hR) (congrArg (fun z => some (Value.int z)) (show _ = (1 : Int32) from if_pos (px_good hpx h0))) rfl) (by rw [hw]; decide) rfl (by decide) rfl rfl (Nat.le_of_ble_eq_true rfl) dX8_register_25 ?_
      refine g_if_eq (tgt := 35) C dX8_register_28 (by decide) (fun c28 => absurd c28 (by decide)) (fun c28 => ?_)
      refine g_aload_n C dX8_register_31 rfl ?_
      refine g_callVt C hts V (i := 134) (gX8_register_X8_next) rfl hdX8_next (by decide) (c_X8_next (p := tpos T (x.1 + 1)) hw hR hX hpx.1 ((hpx.2.2.2.2 h0).2.2.1 (by rw [hk]; decide)) (tpos_le T _)) (by rw [hw]; decide) rfl (by decide) rfl rfl (Nat.le_of_ble_eq_true rfl) dX8_register_32 (fun v M1 J1 R1 h => ?_)
      obtain ⟨v0, r0, hN⟩ := h
      subst v0
      have r0 := Eq.symm r0
      subst r0
      dsimp only at hN
      obtain ⟨hp1, hF1, hJ1⟩ := px_next hpx h0 (by rw [hk]; decide) (by rw [hk]; decide) hN
      refine g_iload_n C dX8_register_35 rfl ?_
      exact g_iret C Rr ⟨rfl, ⟨⟨_, rfl, fun _ => by rw [t_val, if_pos h0, if_pos hk]⟩, rfl, by rw [t_take_ok h0 hk]; exact hp1, hF1, hJ1⟩⟩ dX8_register_36
    · refine g_aload_n C dX8_register_0 rfl ?_
      refine g_callVf C hts V (i := 134) (gX8_register_X8_isGood) rfl hdX8_isGood (by decide) (Cf.to (c_X8_isGood hw hR) (congrArg (fun z => some (Value.int z)) (show _ = (1 : Int32) from if_pos (px_good hpx h0))) rfl) (by rw [hw]; decide) rfl (by decide) rfl rfl (Nat.le_of_ble_eq_true rfl) dX8_register_1 ?_
      refine g_if_eq (tgt := 19) C dX8_register_4 (by decide) (fun c4 => absurd c4 (by decide)) (fun c4 => ?_)
      refine g_aload_n C dX8_register_7 rfl ?_
      refine g_geti C F8 (by rw [hw]; decide) rfl (by decide) 8 (by decide) rfl (hts (.fieldLink RX8 128 "FallBenchModel" "token" "I") (by decide +kernel)) rfl rfl dX8_register_8 ?_
      refine g_iconst (v := 3) C dX8_register_11 (by decide) ?_
      refine g_icmp_eq (tgt := 19) C dX8_register_12 (by decide) (fun c12 => absurd c12 (by rw [hn.2.1]; exact rk_inj (c := 2) (by decide) hk)) (fun c12 => ?_)
      refine g_aload_n C dX8_register_15 rfl ?_
      refine g_callVf C hts V (i := 134) (gX8_register_X8_wrong) rfl hdX8_wrong (by decide) (c_X8_wrong hw hR (px_good hpx h0)) (by rw [hw]; decide) rfl (by decide) rfl rfl (Nat.le_of_ble_eq_true rfl) dX8_register_16 ?_
      refine g_aload_n C dX8_register_19 rfl ?_
      refine g_geti C F8 (by rw [hw]; decide) rfl (by decide) 9 (by decide) rfl (hts (.fieldLink RX8 138 "FallBenchModel" "number" "I") (by decide +kernel)) rfl rfl dX8_register_20 ?_
      refine g_istore_n C V.2.1 dX8_register_23 (by decide) rfl ?_
      refine g_aload_n C dX8_register_24 rfl ?_
      refine g_callVf C hts V (i := 134) (gX8_register_X8_isGood) rfl hdX8_isGood (by decide) (Cf.to (c_X8_isGood hw hR) (congrArg (fun z => some (Value.int z)) (show _ = (0 : Int32) from if_neg (px_ng (px_bad hpx h0) (t_bad_ne T x)))) rfl) (by rw [hw]; decide) rfl (by decide) rfl rfl (Nat.le_of_ble_eq_true rfl) dX8_register_25 ?_
      refine g_if_eq (tgt := 35) C dX8_register_28 (by decide) (fun c28 => ?_) (fun c28 => absurd c28 (not_not_intro rfl))
      refine g_iload_n C dX8_register_35 rfl ?_
      exact g_iret C Rr ⟨rfl, ⟨⟨_, rfl, fun z => absurd z (by rw [t_take_bad h0 hk]; exact t_bad_ne T x)⟩, rfl, by rw [t_take_bad h0 hk]; exact px_bad hpx h0, nf_w _ _ _, nfJ.rf J⟩⟩ dX8_register_36
  · refine g_aload_n C dX8_register_0 rfl ?_
    refine g_callVf C hts V (i := 134) (gX8_register_X8_isGood) rfl hdX8_isGood (by decide) (Cf.to (c_X8_isGood hw hR) (congrArg (fun z => some (Value.int z)) (show _ = (0 : Int32) from if_neg (px_ng hpx h0))) rfl) (by rw [hw]; decide) rfl (by decide) rfl rfl (Nat.le_of_ble_eq_true rfl) dX8_register_1 ?_
    refine g_if_eq (tgt := 19) C dX8_register_4 (by decide) (fun c4 => ?_) (fun c4 => absurd c4 (not_not_intro rfl))
    refine g_aload_n C dX8_register_19 rfl ?_
    refine g_geti C F8 (by rw [hw]; decide) rfl (by decide) 9 (by decide) rfl (hts (.fieldLink RX8 138 "FallBenchModel" "number" "I") (by decide +kernel)) rfl rfl dX8_register_20 ?_
    refine g_istore_n C V.2.1 dX8_register_23 (by decide) rfl ?_
    refine g_aload_n C dX8_register_24 rfl ?_
    refine g_callVf C hts V (i := 134) (gX8_register_X8_isGood) rfl hdX8_isGood (by decide) (Cf.to (c_X8_isGood hw hR) (congrArg (fun z => some (Value.int z)) (show _ = (0 : Int32) from if_neg (px_ng hpx h0))) rfl) (by rw [hw]; decide) rfl (by decide) rfl rfl (Nat.le_of_ble_eq_true rfl) dX8_register_25 ?_
    refine g_if_eq (tgt := 35) C dX8_register_28 (by decide) (fun c28 => ?_) (fun c28 => absurd c28 (not_not_intro rfl))
    refine g_iload_n C dX8_register_35 rfl ?_
    exact g_iret C Rr ⟨rfl, ⟨⟨_, rfl, fun z => absurd z (by rw [t_take_ne h0]; exact h0)⟩, rfl, by rw [t_take_ne h0]; exact hpx, nfF.rf M, nfJ.rf J⟩⟩ dX8_register_36

def labM (M : Nat → Nat → Int32) (J : Nat → Nat → Int64) (L : pL) : Prop := M 134 20 = nI L.length ∧ ∀ j, j < L.length → J 144 j = enc8 (L.getD j ([], 0)).1 ∧ M 142 j = nI (L.getD j ([], 0)).2
def actM (M : Nat → Nat → Int32) (J : Nat → Nat → Int64) (A : List act6) : Prop := M 141 3 = nI A.length ∧ ∀ k, k < A.length → (M 137 (240 + k), M 138 (240 + k), M 139 (240 + k), M 140 (240 + k)) = (A.getD k dA).1 ∧ (¬ goL (A.getD k dA).1.1 = 0 → J 145 k = enc8 (A.getD k dA).2.1 ∧ M 143 k = (A.getD k dA).2.2)
def stM (T : List Int32) (M : Nat → Nat → Int32) (J : Nat → Nat → Int64) (s : pS) : Prop := pxM T M J s.1 ∧ okS T s ∧ (s.1.2.1 = 0 → labM M J s.2.1 ∧ actM M J s.2.2 ∧ okLs s.2.1 ∧ okAs s.2.2)
def mF (M M' : Nat → Nat → Int32) : Prop := ∀ x y, ¬ (x = 134 ∧ (4 ≤ y ∧ y ≤ 9 ∨ y = 20)) → ¬ x = 142 → ¬ x = 143 → ¬ (137 ≤ x ∧ x ≤ 140 ∧ 240 ≤ y) → ¬ (x = 141 ∧ y = 3) → M' x y = M x y
def mJ (J J' : Nat → Nat → Int64) : Prop := ∀ x y, ¬ (x = 134 ∧ y = 10) → ¬ x = 144 → ¬ x = 145 → J' x y = J x y
theorem mF.rf (M : Nat → Nat → Int32) : mF M M := fun _ _ _ _ _ _ _ => rfl
theorem mJ.rf (J : Nat → Nat → Int64) : mJ J J := fun _ _ _ _ _ => rfl
theorem mF.tr {M M' M2 : Nat → Nat → Int32} (h : mF M M') (g : mF M' M2) : mF M M2 := fun x y a b c d e => (g x y a b c d e).trans (h x y a b c d e)
theorem mJ.tr {J J' J2 : Nat → Nat → Int64} (h : mJ J J') (g : mJ J' J2) : mJ J J2 := fun x y a b c => (g x y a b c).trans (h x y a b c)
theorem nfF.m {M M' : Nat → Nat → Int32} (h : nfF M M') : mF M M' := fun x y a _ _ _ _ => h x y (fun z => a ⟨z.1, Or.inl z.2⟩)
theorem nfJ.m {J J' : Nat → Nat → Int64} (h : nfJ J J') : mJ J J' := fun x y a _ _ => h x y a
theorem labM.o {M M' : Nat → Nat → Int32} {J J' : Nat → Nat → Int64} {L : pL} (h : labM M J L) (e1 : M' 134 20 = M 134 20) (e2 : ∀ j, M' 142 j = M 142 j) (e3 : ∀ j, J' 144 j = J 144 j) : labM M' J' L := ⟨e1.trans h.1, fun j hj => by rw [e2 j, e3 j]; exact h.2 j hj⟩
theorem actM.o {M M' : Nat → Nat → Int32} {J J' : Nat → Nat → Int64} {A : List act6} (h : actM M J A) (e1 : ∀ x y, 137 ≤ x → x ≤ 143 → x ≠ 142 → M' x y = M x y) (e3 : ∀ j, J' 145 j = J 145 j) : actM M' J' A := ⟨(e1 141 3 (by decide) (by decide) (by decide)).trans h.1, fun k hk => by rw [e1 137 _ (by decide) (by decide) (by decide), e1 138 _ (by decide) (by decide) (by decide), e1 139 _ (by decide) (by decide) (by decide), e1 140 _ (by decide) (by decide) (by decide), e1 143 _ (by decide) (by decide) (by decide), e3 k]; exact h.2 k hk⟩
theorem lfd_im {M : Nat → Nat → Int32} {J : Nat → Nat → Int64} {L : pL} {W : List Int32} (h : labM M J L) (ho : okLs L) (hW : okW W) : hfd (fun k => J 144 k = enc8 W) L.length = lfd L W := by
  unfold lfd
  exact hfd_congr _ (fun k hk => by rw [(h.2 k hk).1]; exact ⟨fun z => enc8_inj (ho k hk) hW z, fun z => by rw [z]⟩)
theorem stM.nf {T : List Int32} {M M' : Nat → Nat → Int32} {J J' : Nat → Nat → Int64} {x y : px} {L : pL} {A : List act6} (h : stM T M J (x, L, A)) (hp : pxM T M' J' y) (hF : nfF M M') (hJ : nfJ J J') (h0 : y.2.1 = 0 → x.2.1 = 0) : stM T M' J' (y, L, A) := by
  refine ⟨hp, ⟨hp.2.1, h.2.1.2⟩, fun z => ?_⟩
  obtain ⟨a1, a2, a3, a4⟩ := h.2.2 (h0 z)
  exact ⟨a1.o (hF _ _ (by omega)) (fun j => hF _ _ (by omega)) (fun j => hJ _ _ (by omega)), a2.o (fun x y q1 q2 q3 => hF _ _ (by omega)) (fun j => hJ _ _ (by omega)), a3, a4⟩

set_option maxHeartbeats 4000000 in
set_option maxRecDepth 100000 in
theorem c_X8_readLabel {l : Launch} {D : va_G} {w : gw} {M : Nat → Nat → Int32} {J : Nat → Nat → Int64} {R : Nat → Nat → Option Nat} (hw : w.1 = 166) (hR : LayM R) {T : List Int32} (hX : okX T) {x : px} {L : pL} {A : List act6} (hs : stM T M J (x, L, A)) (h0 : x.2.1 = 0) (hlb : isLab T x.1) : Ct l yX8_readLabel wsX8_readLabel ({ frames := 3, cells := 0, slots := 0, locals := 65 } : Room) D w [.ref (w.2.1 134)] (M, J, R) (fun v u => v = none ∧ u.2.2 = R ∧ stM T u.1 u.2.1 ((t_lab T A.length (x, L)).1, (t_lab T A.length (x, L)).2, A) ∧ mF M u.1 ∧ mJ J u.2.1) := by
  obtain ⟨hpx, hoS, hgd⟩ := id hs
  dsimp only at hpx hgd
  have hl : live T x.1 := hoS.1
  refine Cg.of (own := RX8) (cc := cX8_readLabel) (maxL := 1) (ret := none) 0 (by decide) rfl rfl (Nat.le_of_ble_eq_true rfl) (fun X C hts V Rr => ?_)
  have F8 : FW X 8 := fun q h => hts q (List.mem_cons_of_mem _ (List.mem_append_right _ h))
  show Gj X 0 0 w M J R 0 [some (.ref (w.2.1 134))] []
  obtain ⟨hLb, hAc, hoL, hoA⟩ := hgd h0
  have hW : okW (tW T x.1) := tW_ok hlb.1
  have hL20 : L.length ≤ 20 := hoS.2.1
  have hn := hpx.2.2.2.2 h0
  have e10 := hn.2.2.2.2 hlb.1
  have hg := px_good hpx h0
  have k0 : ¬ tK T x.1 = 0 := by rw [hlb.1]; decide
  have k6 : ¬ tK T x.1 = 6 := by rw [hlb.1]; decide
  have hbe : t_bad T x = t_flt T 2 x := by unfold t_bad; rw [if_neg k0]
  by_cases hL : 20 ≤ L.length
  · have hlab : t_lab T A.length (x, L) = (t_flt T 2 x, L) := if_pos hL
    refine g_aload_n C dX8_readLabel_0 rfl ?_
    refine g_geti (v := nI L.length) C F8 (by rw [hw]; decide) rfl (by decide) 20 (by decide) rfl (hts (.fieldLink RX8 187 "FallBenchModel" "labels" "I") (by decide +kernel)) rfl hLb.1 dX8_readLabel_1 ?_
    refine g_bipush (v := 20) C dX8_readLabel_4 (by decide) ?_
    refine g_icmp_ne (tgt := 13) C dX8_readLabel_6 (by decide) (fun c6 => absurd c6 (not_not_intro (show nI L.length = 20 by rw [show L.length = 20 by omega]; rfl))) (fun c6 => ?_)
    refine g_aload_n C dX8_readLabel_9 rfl ?_
    refine g_callVf C hts V (i := 134) (gX8_readLabel_X8_wrong) rfl hdX8_wrong (by decide) (c_X8_wrong hw hR hg) (by rw [hw]; decide) rfl (by decide) rfl rfl (Nat.le_of_ble_eq_true rfl) dX8_readLabel_10 ?_
    refine g_aload_n C dX8_readLabel_13 rfl ?_
    refine g_callVf C hts V (i := 134) (gX8_readLabel_X8_isGood) rfl hdX8_isGood (by decide) (Cf.to (c_X8_isGood hw hR) (congrArg (fun z => some (Value.int z)) (show _ = (0 : Int32) from if_neg (px_ng (px_bad hpx h0) (t_bad_ne T x)))) rfl) (by rw [hw]; decide) rfl (by decide) rfl rfl (Nat.le_of_ble_eq_true rfl) dX8_readLabel_14 ?_
    refine g_if_eq (tgt := 40) C dX8_readLabel_17 (by decide) (fun c17 => ?_) (fun c17 => absurd c17 (not_not_intro rfl))
    refine g_aload_n C dX8_readLabel_40 rfl ?_
    refine g_callVf C hts V (i := 134) (gX8_readLabel_X8_isGood) rfl hdX8_isGood (by decide) (Cf.to (c_X8_isGood hw hR) (congrArg (fun z => some (Value.int z)) (show _ = (0 : Int32) from if_neg (px_ng (px_bad hpx h0) (t_bad_ne T x)))) rfl) (by rw [hw]; decide) rfl (by decide) rfl rfl (Nat.le_of_ble_eq_true rfl) dX8_readLabel_41 ?_
    refine g_if_ne (tgt := 48) C dX8_readLabel_44 (by decide) (fun c44 => absurd c44 (not_not_intro rfl)) (fun c44 => ?_)
    exact g_vret C Rr ⟨rfl, ⟨rfl, rfl, by rw [hlab, ← hbe]; exact hs.nf (px_bad hpx h0) (nf_w _ _ _) (nfJ.rf J) (fun _ => h0), (nf_w _ _ _).m, mJ.rf J⟩⟩ dX8_readLabel_47
  have ne20 : ¬ nI L.length = 20 := fun q => by
    have q2 := congrArg Int32.toNatClampNeg q
    rw [nI_clamp (by omega)] at q2
    have q3 : L.length = 20 := q2
    omega
  rcases hf : lfd L (tW T x.1) with _ | h
  · have hlab : t_lab T A.length (x, L) = (t_take T 4 (t_take T 1 x), L ++ [(tW T x.1, A.length)]) := by
      unfold t_lab
      rw [if_neg hL]
      dsimp only
      rw [hf]
    have e1 : t_take T 1 x = (x.1 + 1, 0, x.2.2) := t_take_ok h0 hlb.1
    have hp2 : pxM T (up2 (up2 M 142 L.length (nI A.length)) 134 20 (nI L.length + 1)) (up2 J 144 L.length (enc8 (tW T x.1))) x := hpx.o (fun y q1 q2 => by rw [up2_n2 _ _ (by omega), up2_n1 _ _ (by decide)]) (fun k => by rw [up2_n1 _ _ (by decide), up2_n1 _ _ (by decide)]) (up2_n1 _ _ (by decide))
    have fin : ∀ M5 J5 y, y = t_take T 4 (t_take T 1 x) → pxM T M5 J5 y → nfF (up2 (up2 M 142 L.length (nI A.length)) 134 20 (nI L.length + 1)) M5 → nfJ (up2 J 144 L.length (enc8 (tW T x.1))) J5 → stM T M5 J5 ((t_lab T A.length (x, L)).1, (t_lab T A.length (x, L)).2, A) ∧ mF M M5 ∧ mJ J J5 := by
      intro M5 J5 y hy q1 q2 q3
      have hoT : okS T ((t_lab T A.length (x, L)).1, (t_lab T A.length (x, L)).2, A) := ⟨(t_lab_ok (c := A.length) (s := (x, L)) hl hL20).1, (t_lab_ok (c := A.length) (s := (x, L)) hl hL20).2.1, hoS.2.2⟩
      rw [hlab] at hoT ⊢
      refine ⟨⟨hy ▸ q1, hoT, fun _ => ⟨⟨?_, fun j hj => ?_⟩, hAc.o (fun x y z1 z2 z3 => ?_) (fun j => ?_), hoL.snoc hW, hoA⟩⟩, fun x y z1 z2 z3 z4 z5 => ?_, fun x y z1 z2 z3 => ?_⟩
      · rw [q2 134 20 (by omega), up2_eq, nI_p1]; dsimp only; rw [snoc_len]
      · dsimp only at hj ⊢
        rw [snoc_len] at hj
        rw [q2 142 j (by omega), q3 144 j (by omega)]
        rcases Nat.lt_or_ge j L.length with g | g
        · rw [snoc_lt g, up2_n2 _ _ (by omega), up2_n1 _ _ (by decide), up2_n2 _ _ (by omega)]; exact hLb.2 j g
        · obtain rfl : j = L.length := by omega
          rw [snoc_eq rfl, up2_eq, up2_n1 _ _ (by decide), up2_eq]; exact ⟨rfl, rfl⟩
      · rw [q2 x y (by omega), up2_n1 _ _ (by omega), up2_n1 _ _ z3]
      · rw [q3 145 j (by omega), up2_n1 _ _ (by decide)]
      · rw [q2 x y (fun z => z1 ⟨z.1, Or.inl z.2⟩), up2_nb (fun z => z1 ⟨z.1, Or.inr z.2⟩), up2_n1 _ _ z2]
      · rw [q3 x y z1, up2_n1 _ _ z2]
    by_cases hk : tK T (x.1 + 1) = 4
    · refine g_aload_n C dX8_readLabel_0 rfl ?_
      refine g_geti (v := nI L.length) C F8 (by rw [hw]; decide) rfl (by decide) 20 (by decide) rfl (hts (.fieldLink RX8 187 "FallBenchModel" "labels" "I") (by decide +kernel)) rfl hLb.1 dX8_readLabel_1 ?_
      refine g_bipush (v := 20) C dX8_readLabel_4 (by decide) ?_
      refine g_icmp_ne (tgt := 13) C dX8_readLabel_6 (by decide) (fun c6 => ?_) (fun c6 => absurd c6 ne20)
      refine g_aload_n C dX8_readLabel_13 rfl ?_
      refine g_callVf C hts V (i := 134) (gX8_readLabel_X8_isGood) rfl hdX8_isGood (by decide) (Cf.to (c_X8_isGood hw hR) (congrArg (fun z => some (Value.int z)) (show _ = (1 : Int32) from if_pos hg)) rfl) (by rw [hw]; decide) rfl (by decide) rfl rfl (Nat.le_of_ble_eq_true rfl) dX8_readLabel_14 ?_
      refine g_if_eq (tgt := 40) C dX8_readLabel_17 (by decide) (fun c17 => absurd c17 (by decide)) (fun c17 => ?_)
      refine g_aload_n C dX8_readLabel_20 rfl ?_
      refine g_aload_n C dX8_readLabel_21 rfl ?_
      refine g_getl (v := enc8 (tW T x.1)) C F8 (by rw [hw]; decide) rfl (by decide) 10 (by decide) rfl (hts (.fieldLink RX8 141 "FallBenchModel" "name" "J") (by decide +kernel)) rfl e10 dX8_readLabel_22 ?_
      refine g_callVf C hts V (i := 134) (gX8_readLabel_X8_labelOf) rfl hdX8_labelOf (by decide) (Cf.to (c_X8_labelOf (c := L.length) hw hR hLb.1 hL20) (congrArg (fun z => some (Value.int z)) (show _ = (-1 : Int32) by rw [lfd_im hLb hoL hW, hf]; rfl)) rfl) (by rw [hw]; decide) rfl (by decide) rfl rfl (Nat.le_of_ble_eq_true rfl) dX8_readLabel_25 ?_
      refine g_if_lt (tgt := 40) C dX8_readLabel_28 (by decide) (fun c28 => ?_) (fun c28 => absurd c28 (not_not_intro (by decide)))
      refine g_aload_n C dX8_readLabel_40 rfl ?_
      refine g_callVf C hts V (i := 134) (gX8_readLabel_X8_isGood) rfl hdX8_isGood (by decide) (Cf.to (c_X8_isGood hw hR) (congrArg (fun z => some (Value.int z)) (show _ = (1 : Int32) from if_pos hg)) rfl) (by rw [hw]; decide) rfl (by decide) rfl rfl (Nat.le_of_ble_eq_true rfl) dX8_readLabel_41 ?_
      refine g_if_ne (tgt := 48) C dX8_readLabel_44 (by decide) (fun c44 => ?_) (fun c44 => absurd c44 (by decide))
      refine g_aload_n C dX8_readLabel_48 rfl ?_
      refine g_getr (j := 144) C F8 (by rw [hw]; decide) rfl (by decide) 18 (by decide) rfl (hts (.fieldLink RX8 42 "FallBenchModel" "label" "[J") (by decide +kernel)) rfl (hR (18, 144) (by decide)) dX8_readLabel_49 ?_
      refine g_aload_n C dX8_readLabel_52 rfl ?_
      refine g_geti (v := nI L.length) C F8 (by rw [hw]; decide) rfl (by decide) 20 (by decide) rfl (hts (.fieldLink RX8 187 "FallBenchModel" "labels" "I") (by decide +kernel)) rfl hLb.1 dX8_readLabel_53 ?_
      refine g_aload_n C dX8_readLabel_56 rfl ?_
      refine g_getl (v := enc8 (tW T x.1)) C F8 (by rw [hw]; decide) rfl (by decide) 10 (by decide) rfl (hts (.fieldLink RX8 141 "FallBenchModel" "name" "J") (by decide +kernel)) rfl e10 dX8_readLabel_57 ?_
      refine g_last C (by rw [hw]; decide) rfl (vp_in_nI (N := 20) (n := L.length) (by omega) (by decide)) dX8_readLabel_60 ?_
      rw [nI_clamp (show L.length < 2 ^ 31 by omega)]
      refine g_aload_n C dX8_readLabel_61 rfl ?_
      refine g_getr (j := 142) C F8 (by rw [hw]; decide) rfl (by decide) 16 (by decide) rfl (hts (.fieldLink RX8 36 "FallBenchModel" "labelAt" "[I") (by decide +kernel)) rfl (hR (16, 142) (by decide)) dX8_readLabel_62 ?_
      refine g_aload_n C dX8_readLabel_65 rfl ?_
      refine g_geti (v := nI L.length) C F8 (by rw [hw]; decide) rfl (by decide) 20 (by decide) rfl (hts (.fieldLink RX8 187 "FallBenchModel" "labels" "I") (by decide +kernel)) rfl hLb.1 dX8_readLabel_66 ?_
      refine g_aload_n C dX8_readLabel_69 rfl ?_
      refine g_getr (j := 141) C F8 (by rw [hw]; decide) rfl (by decide) 15 (by decide) rfl (hts (.fieldLink RX8 33 "FallBenchModel" "many" "[I") (by decide +kernel)) rfl (hR (15, 141) (by decide)) dX8_readLabel_70 ?_
      refine g_iconst (v := 3) C dX8_readLabel_73 (by decide) ?_
      refine g_iald (v := nI A.length) C (by rw [hw]; decide) rfl (vp_in_nI (N := 4) (n := 3) (by decide) (by decide)) hAc.1 dX8_readLabel_74 ?_
      refine g_iast C (by rw [hw]; decide) rfl (vp_in_nI (N := 20) (n := L.length) (by omega) (by decide)) dX8_readLabel_75 ?_
      rw [nI_clamp (show L.length < 2 ^ 31 by omega)]
      refine g_aload_n C dX8_readLabel_76 rfl ?_
      refine g_dup C dX8_readLabel_77 rfl ?_
      refine g_geti (v := nI L.length) C F8 (by rw [hw]; decide) rfl (by decide) 20 (by decide) rfl (hts (.fieldLink RX8 187 "FallBenchModel" "labels" "I") (by decide +kernel)) rfl (by rw [up2_n1 _ _ (by decide)]; exact hLb.1) dX8_readLabel_78 ?_
      refine g_iconst (v := 1) C dX8_readLabel_81 (by decide) ?_
      refine g_iadd C dX8_readLabel_82 ?_
      refine g_puti C F8 (by rw [hw]; decide) rfl (by decide) 20 (by decide) rfl (hts (.fieldLink RX8 187 "FallBenchModel" "labels" "I") (by decide +kernel)) rfl rfl rfl rfl dX8_readLabel_83 ?_
      refine g_aload_n C dX8_readLabel_86 rfl ?_
      refine g_callVt C hts V (i := 134) (gX8_readLabel_X8_next) rfl hdX8_next (by decide) (c_X8_next (p := tpos T (x.1 + 1)) hw hR hX hp2.1 ((hp2.2.2.2.2 h0).2.2.1 k0) (tpos_le T _)) (by rw [hw]; decide) rfl (by decide) rfl rfl (Nat.le_of_ble_eq_true rfl) dX8_readLabel_87 (fun v M1 J1 R1 h => ?_)
      obtain ⟨v0, r0, hN⟩ := h
      subst v0
      have r0 := Eq.symm r0
      subst r0
      dsimp only at hN
      obtain ⟨hp1, hF1, hJ1⟩ := px_next hp2 h0 k0 k6 hN
      have hn1 := hp1.2.2.2.2 rfl
      refine g_aload_n C dX8_readLabel_90 rfl ?_
      refine g_geti C F8 (by rw [hw]; decide) rfl (by decide) 8 (by decide) rfl (hts (.fieldLink RX8 128 "FallBenchModel" "token" "I") (by decide +kernel)) rfl rfl dX8_readLabel_91 ?_
      refine g_iconst (v := 5) C dX8_readLabel_94 (by decide) ?_
      refine g_icmp_eq (tgt := 102) C dX8_readLabel_95 (by decide) (fun c95 => ?_) (fun c95 => absurd c95 (not_not_intro (hn1.2.1.trans (rk_of (c := 4) (by decide) hk))))
      refine g_aload_n C dX8_readLabel_102 rfl ?_
      refine g_callVf C hts V (i := 134) (gX8_readLabel_X8_isGood) rfl hdX8_isGood (by decide) (Cf.to (c_X8_isGood hw hR) (congrArg (fun z => some (Value.int z)) (show _ = (1 : Int32) from if_pos (px_good hp1 rfl))) rfl) (by rw [hw]; decide) rfl (by decide) rfl rfl (Nat.le_of_ble_eq_true rfl) dX8_readLabel_103 ?_
      refine g_if_eq (tgt := 113) C dX8_readLabel_106 (by decide) (fun c106 => absurd c106 (by decide)) (fun c106 => ?_)
      refine g_aload_n C dX8_readLabel_109 rfl ?_
      refine g_callVt C hts V (i := 134) (gX8_readLabel_X8_next) rfl hdX8_next (by decide) (c_X8_next (p := tpos T (x.1 + 1 + 1)) hw hR hX hp1.1 (hn1.2.2.1 (show ¬ tK T (x.1 + 1) = 0 by rw [hk]; decide)) (tpos_le T _)) (by rw [hw]; decide) rfl (by decide) rfl rfl (Nat.le_of_ble_eq_true rfl) dX8_readLabel_110 (fun v M1 J1 R1 h => ?_)
      obtain ⟨v0, r0, hN2⟩ := h
      subst v0
      have r0 := Eq.symm r0
      subst r0
      dsimp only at hN2
      obtain ⟨hp3, hF3, hJ3⟩ := px_next hp1 rfl (show ¬ tK T (x.1 + 1) = 0 by rw [hk]; decide) (show ¬ tK T (x.1 + 1) = 6 by rw [hk]; decide) hN2
      obtain ⟨f1, f2, f3⟩ := fin _ _ _ (by rw [e1, t_take_ok rfl hk]) hp3 (hF1.tr hF3) (hJ1.tr hJ3)
      exact g_vret C Rr ⟨rfl, ⟨rfl, rfl, f1, f2, f3⟩⟩ dX8_readLabel_113
    · refine g_aload_n C dX8_readLabel_0 rfl ?_
      refine g_geti (v := nI L.length) C F8 (by rw [hw]; decide) rfl (by decide) 20 (by decide) rfl (hts (.fieldLink RX8 187 "FallBenchModel" "labels" "I") (by decide +kernel)) rfl hLb.1 dX8_readLabel_1 ?_
      refine g_bipush (v := 20) C dX8_readLabel_4 (by decide) ?_
      refine g_icmp_ne (tgt := 13) C dX8_readLabel_6 (by decide) (fun c6 => ?_) (fun c6 => absurd c6 ne20)
      refine g_aload_n C dX8_readLabel_13 rfl ?_
      refine g_callVf C hts V (i := 134) (gX8_readLabel_X8_isGood) rfl hdX8_isGood (by decide) (Cf.to (c_X8_isGood hw hR) (congrArg (fun z => some (Value.int z)) (show _ = (1 : Int32) from if_pos hg)) rfl) (by rw [hw]; decide) rfl (by decide) rfl rfl (Nat.le_of_ble_eq_true rfl) dX8_readLabel_14 ?_
      refine g_if_eq (tgt := 40) C dX8_readLabel_17 (by decide) (fun c17 => absurd c17 (by decide)) (fun c17 => ?_)
      refine g_aload_n C dX8_readLabel_20 rfl ?_
      refine g_aload_n C dX8_readLabel_21 rfl ?_
      refine g_getl (v := enc8 (tW T x.1)) C F8 (by rw [hw]; decide) rfl (by decide) 10 (by decide) rfl (hts (.fieldLink RX8 141 "FallBenchModel" "name" "J") (by decide +kernel)) rfl e10 dX8_readLabel_22 ?_
      refine g_callVf C hts V (i := 134) (gX8_readLabel_X8_labelOf) rfl hdX8_labelOf (by decide) (Cf.to (c_X8_labelOf (c := L.length) hw hR hLb.1 hL20) (congrArg (fun z => some (Value.int z)) (show _ = (-1 : Int32) by rw [lfd_im hLb hoL hW, hf]; rfl)) rfl) (by rw [hw]; decide) rfl (by decide) rfl rfl (Nat.le_of_ble_eq_true rfl) dX8_readLabel_25 ?_
      refine g_if_lt (tgt := 40) C dX8_readLabel_28 (by decide) (fun c28 => ?_) (fun c28 => absurd c28 (not_not_intro (by decide)))
      refine g_aload_n C dX8_readLabel_40 rfl ?_
      refine g_callVf C hts V (i := 134) (gX8_readLabel_X8_isGood) rfl hdX8_isGood (by decide) (Cf.to (c_X8_isGood hw hR) (congrArg (fun z => some (Value.int z)) (show _ = (1 : Int32) from if_pos hg)) rfl) (by rw [hw]; decide) rfl (by decide) rfl rfl (Nat.le_of_ble_eq_true rfl) dX8_readLabel_41 ?_
      refine g_if_ne (tgt := 48) C dX8_readLabel_44 (by decide) (fun c44 => ?_) (fun c44 => absurd c44 (by decide))
      refine g_aload_n C dX8_readLabel_48 rfl ?_
      refine g_getr (j := 144) C F8 (by rw [hw]; decide) rfl (by decide) 18 (by decide) rfl (hts (.fieldLink RX8 42 "FallBenchModel" "label" "[J") (by decide +kernel)) rfl (hR (18, 144) (by decide)) dX8_readLabel_49 ?_
      refine g_aload_n C dX8_readLabel_52 rfl ?_
      refine g_geti (v := nI L.length) C F8 (by rw [hw]; decide) rfl (by decide) 20 (by decide) rfl (hts (.fieldLink RX8 187 "FallBenchModel" "labels" "I") (by decide +kernel)) rfl hLb.1 dX8_readLabel_53 ?_
      refine g_aload_n C dX8_readLabel_56 rfl ?_
      refine g_getl (v := enc8 (tW T x.1)) C F8 (by rw [hw]; decide) rfl (by decide) 10 (by decide) rfl (hts (.fieldLink RX8 141 "FallBenchModel" "name" "J") (by decide +kernel)) rfl e10 dX8_readLabel_57 ?_
      refine g_last C (by rw [hw]; decide) rfl (vp_in_nI (N := 20) (n := L.length) (by omega) (by decide)) dX8_readLabel_60 ?_
      rw [nI_clamp (show L.length < 2 ^ 31 by omega)]
      refine g_aload_n C dX8_readLabel_61 rfl ?_
      refine g_getr (j := 142) C F8 (by rw [hw]; decide) rfl (by decide) 16 (by decide) rfl (hts (.fieldLink RX8 36 "FallBenchModel" "labelAt" "[I") (by decide +kernel)) rfl (hR (16, 142) (by decide)) dX8_readLabel_62 ?_
      refine g_aload_n C dX8_readLabel_65 rfl ?_
      refine g_geti (v := nI L.length) C F8 (by rw [hw]; decide) rfl (by decide) 20 (by decide) rfl (hts (.fieldLink RX8 187 "FallBenchModel" "labels" "I") (by decide +kernel)) rfl hLb.1 dX8_readLabel_66 ?_
      refine g_aload_n C dX8_readLabel_69 rfl ?_
      refine g_getr (j := 141) C F8 (by rw [hw]; decide) rfl (by decide) 15 (by decide) rfl (hts (.fieldLink RX8 33 "FallBenchModel" "many" "[I") (by decide +kernel)) rfl (hR (15, 141) (by decide)) dX8_readLabel_70 ?_
      refine g_iconst (v := 3) C dX8_readLabel_73 (by decide) ?_
      refine g_iald (v := nI A.length) C (by rw [hw]; decide) rfl (vp_in_nI (N := 4) (n := 3) (by decide) (by decide)) hAc.1 dX8_readLabel_74 ?_
      refine g_iast C (by rw [hw]; decide) rfl (vp_in_nI (N := 20) (n := L.length) (by omega) (by decide)) dX8_readLabel_75 ?_
      rw [nI_clamp (show L.length < 2 ^ 31 by omega)]
      refine g_aload_n C dX8_readLabel_76 rfl ?_
      refine g_dup C dX8_readLabel_77 rfl ?_
      refine g_geti (v := nI L.length) C F8 (by rw [hw]; decide) rfl (by decide) 20 (by decide) rfl (hts (.fieldLink RX8 187 "FallBenchModel" "labels" "I") (by decide +kernel)) rfl (by rw [up2_n1 _ _ (by decide)]; exact hLb.1) dX8_readLabel_78 ?_
      refine g_iconst (v := 1) C dX8_readLabel_81 (by decide) ?_
      refine g_iadd C dX8_readLabel_82 ?_
      refine g_puti C F8 (by rw [hw]; decide) rfl (by decide) 20 (by decide) rfl (hts (.fieldLink RX8 187 "FallBenchModel" "labels" "I") (by decide +kernel)) rfl rfl rfl rfl dX8_readLabel_83 ?_
      refine g_aload_n C dX8_readLabel_86 rfl ?_
      refine g_callVt C hts V (i := 134) (gX8_readLabel_X8_next) rfl hdX8_next (by decide) (c_X8_next (p := tpos T (x.1 + 1)) hw hR hX hp2.1 ((hp2.2.2.2.2 h0).2.2.1 k0) (tpos_le T _)) (by rw [hw]; decide) rfl (by decide) rfl rfl (Nat.le_of_ble_eq_true rfl) dX8_readLabel_87 (fun v M1 J1 R1 h => ?_)
      obtain ⟨v0, r0, hN⟩ := h
      subst v0
      have r0 := Eq.symm r0
      subst r0
      dsimp only at hN
      obtain ⟨hp1, hF1, hJ1⟩ := px_next hp2 h0 k0 k6 hN
      have hn1 := hp1.2.2.2.2 rfl
      refine g_aload_n C dX8_readLabel_90 rfl ?_
      refine g_geti C F8 (by rw [hw]; decide) rfl (by decide) 8 (by decide) rfl (hts (.fieldLink RX8 128 "FallBenchModel" "token" "I") (by decide +kernel)) rfl rfl dX8_readLabel_91 ?_
      refine g_iconst (v := 5) C dX8_readLabel_94 (by decide) ?_
      refine g_icmp_eq (tgt := 102) C dX8_readLabel_95 (by decide) (fun c95 => absurd c95 (by rw [hn1.2.1]; exact rk_inj (c := 4) (by decide) hk)) (fun c95 => ?_)
      refine g_aload_n C dX8_readLabel_98 rfl ?_
      refine g_callVf C hts V (i := 134) (gX8_readLabel_X8_wrong) rfl hdX8_wrong (by decide) (c_X8_wrong hw hR (px_good hp1 rfl)) (by rw [hw]; decide) rfl (by decide) rfl rfl (Nat.le_of_ble_eq_true rfl) dX8_readLabel_99 ?_
      have hp4 := px_bad hp1 rfl
      obtain ⟨f1, f2, f3⟩ := fin _ _ _ (by rw [e1, t_take_bad rfl hk]) hp4 (hF1.tr (nf_w _ _ _)) hJ1
      refine g_aload_n C dX8_readLabel_102 rfl ?_
      refine g_callVf C hts V (i := 134) (gX8_readLabel_X8_isGood) rfl hdX8_isGood (by decide) (Cf.to (c_X8_isGood hw hR) (congrArg (fun z => some (Value.int z)) (show _ = (0 : Int32) from if_neg (px_ng hp4 (t_bad_ne T _)))) rfl) (by rw [hw]; decide) rfl (by decide) rfl rfl (Nat.le_of_ble_eq_true rfl) dX8_readLabel_103 ?_
      refine g_if_eq (tgt := 113) C dX8_readLabel_106 (by decide) (fun c106 => ?_) (fun c106 => absurd c106 (not_not_intro rfl))
      exact g_vret C Rr ⟨rfl, ⟨rfl, rfl, f1, f2, f3⟩⟩ dX8_readLabel_113
  · have hlab : t_lab T A.length (x, L) = (t_flt T 3 x, L) := by
      unfold t_lab
      rw [if_neg hL]
      dsimp only
      rw [hf]
    have hh := (hfd_spec hf).1
    have hp3 : pxM T (up2 (up2 M 134 4 3) 134 5 (tP T x.1)) J (t_flt T 3 x) := px_flt hpx rfl rfl (by show ¬ (3 : Int32) = 0; decide) hl
    refine g_aload_n C dX8_readLabel_0 rfl ?_
    refine g_geti (v := nI L.length) C F8 (by rw [hw]; decide) rfl (by decide) 20 (by decide) rfl (hts (.fieldLink RX8 187 "FallBenchModel" "labels" "I") (by decide +kernel)) rfl hLb.1 dX8_readLabel_1 ?_
    refine g_bipush (v := 20) C dX8_readLabel_4 (by decide) ?_
    refine g_icmp_ne (tgt := 13) C dX8_readLabel_6 (by decide) (fun c6 => ?_) (fun c6 => absurd c6 ne20)
    refine g_aload_n C dX8_readLabel_13 rfl ?_
    refine g_callVf C hts V (i := 134) (gX8_readLabel_X8_isGood) rfl hdX8_isGood (by decide) (Cf.to (c_X8_isGood hw hR) (congrArg (fun z => some (Value.int z)) (show _ = (1 : Int32) from if_pos hg)) rfl) (by rw [hw]; decide) rfl (by decide) rfl rfl (Nat.le_of_ble_eq_true rfl) dX8_readLabel_14 ?_
    refine g_if_eq (tgt := 40) C dX8_readLabel_17 (by decide) (fun c17 => absurd c17 (by decide)) (fun c17 => ?_)
    refine g_aload_n C dX8_readLabel_20 rfl ?_
    refine g_aload_n C dX8_readLabel_21 rfl ?_
    refine g_getl (v := enc8 (tW T x.1)) C F8 (by rw [hw]; decide) rfl (by decide) 10 (by decide) rfl (hts (.fieldLink RX8 141 "FallBenchModel" "name" "J") (by decide +kernel)) rfl e10 dX8_readLabel_22 ?_
    refine g_callVf C hts V (i := 134) (gX8_readLabel_X8_labelOf) rfl hdX8_labelOf (by decide) (Cf.to (c_X8_labelOf (c := L.length) hw hR hLb.1 hL20) (congrArg (fun z => some (Value.int z)) (show _ = nI h by rw [lfd_im hLb hoL hW, hf]; rfl)) rfl) (by rw [hw]; decide) rfl (by decide) rfl rfl (Nat.le_of_ble_eq_true rfl) dX8_readLabel_25 ?_
    refine g_if_lt (tgt := 40) C dX8_readLabel_28 (by decide) (fun c28 => absurd c28 (nI_pos (by omega))) (fun c28 => ?_)
    refine g_aload_n C dX8_readLabel_31 rfl ?_
    refine g_iconst (v := 3) C dX8_readLabel_32 (by decide) ?_
    refine g_aload_n C dX8_readLabel_33 rfl ?_
    refine g_geti (v := tP T x.1) C F8 (by rw [hw]; decide) rfl (by decide) 6 (by decide) rfl (hts (.fieldLink RX8 121 "FallBenchModel" "at" "I") (by decide +kernel)) rfl hn.1 dX8_readLabel_34 ?_
    refine g_callVf C hts V (i := 134) (gX8_readLabel_X8_fails) rfl hdX8_fails (by decide) (c_X8_fails hw hR hg) (by rw [hw]; decide) rfl (by decide) rfl rfl (Nat.le_of_ble_eq_true rfl) dX8_readLabel_37 ?_
    refine g_aload_n C dX8_readLabel_40 rfl ?_
    refine g_callVf C hts V (i := 134) (gX8_readLabel_X8_isGood) rfl hdX8_isGood (by decide) (Cf.to (c_X8_isGood hw hR) (congrArg (fun z => some (Value.int z)) (show _ = (0 : Int32) from if_neg (px_ng hp3 (by show ¬ (3 : Int32) = 0; decide)))) rfl) (by rw [hw]; decide) rfl (by decide) rfl rfl (Nat.le_of_ble_eq_true rfl) dX8_readLabel_41 ?_
    refine g_if_ne (tgt := 48) C dX8_readLabel_44 (by decide) (fun c44 => absurd c44 (not_not_intro rfl)) (fun c44 => ?_)
    exact g_vret C Rr ⟨rfl, ⟨rfl, rfl, by rw [hlab]; exact hs.nf hp3 (nf_w _ _ _) (nfJ.rf J) (fun _ => h0), (nf_w _ _ _).m, mJ.rf J⟩⟩ dX8_readLabel_47
