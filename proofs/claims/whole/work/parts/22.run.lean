/-! a whole RUN of a machine -/
theorem Gj_mem {X : gX} {a b pc : Nat} {w : gw} {M M' : Nat → Nat → Int32} {J : Nat → Nat → Int64} {R : Nat → Nat → Option Nat} {lv : List (Option Value)} {st : List Value} (e : M = M') (k : Gj X a b w M' J R pc lv st) : Gj X a b w M J R pc lv st := e ▸ k
theorem quad_apart {w : gw} {R : Nat → Nat → Option Nat} {c c' n n' i p : Nat} (h : isQuad c n w R i) (h' : isQuad c' n' w R p) (hc : c ≠ c') (h9 : c ≠ 9) (h9' : c' ≠ 9) : p + 4 < i ∨ i + 4 < p := by
  obtain ⟨-, a0, a1, a2, a3, a4, -⟩ := h
  obtain ⟨-, b0, b1, b2, b3, b4, -⟩ := h'
  rcases Nat.lt_or_ge (p + 4) i with e | e
  · exact Or.inl e
  rcases Nat.lt_or_ge (i + 4) p with e' | e'
  · exact Or.inr e'
  exfalso
  have : p = i ∨ p = i + 1 ∨ p = i + 2 ∨ p = i + 3 ∨ p = i + 4 ∨ i = p + 1 ∨ i = p + 2 ∨ i = p + 3 ∨ i = p + 4 := by omega
  rcases this with rfl | rfl | rfl | rfl | rfl | rfl | rfl | rfl | rfl
  · exact hc (a0.symm.trans b0)
  · exact h9' (b0.symm.trans a1)
  · exact h9' (b0.symm.trans a2)
  · exact h9' (b0.symm.trans a3)
  · exact h9' (b0.symm.trans a4)
  · exact h9 (a0.symm.trans b1)
  · exact h9 (a0.symm.trans b2)
  · exact h9 (a0.symm.trans b3)
  · exact h9 (a0.symm.trans b4)
theorem row_apart {w : gw} {R : Nat → Nat → Option Nat} {c n i q : Nat} (h : isQuad c n w R i) (h' : isRow w R q) (hc : c ≠ 3) (h9 : c ≠ 9) : q + 1 < i ∨ i + 4 < q := by
  obtain ⟨-, a0, a1, a2, a3, a4, -⟩ := h
  obtain ⟨-, b0, b1, -⟩ := h'
  rcases Nat.lt_or_ge (q + 1) i with e | e
  · exact Or.inl e
  rcases Nat.lt_or_ge (i + 4) q with e' | e'
  · exact Or.inr e'
  exfalso
  have : q = i ∨ q = i + 1 ∨ q = i + 2 ∨ q = i + 3 ∨ q = i + 4 ∨ i = q + 1 := by omega
  rcases this with rfl | rfl | rfl | rfl | rfl | rfl
  · exact hc (a0.symm.trans b0)
  · rw [a1] at b0; cases b0
  · rw [a2] at b0; cases b0
  · rw [a3] at b0; cases b0
  · rw [a4] at b0; cases b0
  · exact h9 (a0.symm.trans b1)
section MO
variable {M : Nat → Nat → Int32} {i a b : Nat}
theorem u_out {c k : Nat} {v : Int32} (h : a < i ∨ i + 4 < a) (hc : c ≤ 4) : up2 M (i + c) k v a b = M a b := up2_n1 _ _ (by omega)
theorem u_out0 {k : Nat} {v : Int32} (h : a < i ∨ i + 4 < a) : up2 M i k v a b = M a b := up2_n1 _ _ (by omega)
theorem m_make_out {x v t u : Int32} (h : a < i ∨ i + 4 < a) : m_make M i x v t u a b = M a b := by
  simp only [m_make]; rw [u_out h (by decide), u_out h (by decide), u_out h (by decide)]
theorem m_carry_out {x v t : Int32} (h : a < i ∨ i + 4 < a) : m_carry M i x v t a b = M a b := by
  simp only [m_carry]; rw [u_out h (by decide), u_out h (by decide), u_out h (by decide)]
theorem m_bad_out {x v t : Int32} (h : a < i ∨ i + 4 < a) : m_bad M i x v t a b = M a b := by
  simp only [m_bad]; rw [u_out0 h, u_out0 h, u_out0 h, u_out0 h, u_out0 h]
theorem m_tell_out {v : Int32} (h : a < i ∨ i + 4 < a) : m_tell M i v a b = M a b := by
  simp only [m_tell]; rw [u_out0 h]; split
  · rfl
  · exact u_out h (by decide)
theorem m_goIf_out {z v : Int32} (h : a < i ∨ i + 4 < a) : m_goIf M i z v a b = M a b := by
  simp only [m_goIf]; split
  · rfl
  · exact u_out0 h
theorem m_jump_out {x v t : Int32} (h : a < i ∨ i + 4 < a) : m_jump M i x v t a b = M a b := by
  simp only [m_jump]; split
  · exact m_bad_out h
  · split
    · exact m_bad_out h
    · exact u_out0 h
theorem m_load_out {x v t : Int32} (h : a < i ∨ i + 4 < a) : m_load M i x v t a b = M a b := by
  simp only [m_load]; split
  · exact m_bad_out h
  · exact m_carry_out h
theorem m_store_out {x v t : Int32} (h : a < i ∨ i + 4 < a) : m_store M i x v t a b = M a b := by
  simp only [m_store]; split
  · exact m_bad_out h
  · exact m_carry_out h
theorem m_read_out {x v : Int32} {q : Nat} (h : a < i ∨ i + 4 < a) : m_read M i x v q a b = M a b := by
  simp only [m_read]; split
  · exact m_make_out h
  · rw [u_out0 h]; exact m_make_out h
theorem m_sw_ind (Pr : (Nat → Nat → Int32) → Prop) {k r s n x cnt : Int32} {q : Nat} (h0 : Pr (m_read M i r x q)) (h1 : ∀ v u, Pr (m_make M i r v x u)) (h2 : Pr (m_carry M i s r 0)) (h6 : Pr (m_load M i r s x)) (h7 : Pr (m_store M i r s x)) (h8 : ∀ z, Pr (m_goIf M i z n)) (h10 : Pr (up2 M i 12 n)) (h11 : Pr (m_jump M i r x cnt)) (h12 : ∀ v, Pr (m_tell M i v)) (h13 : Pr (up2 M i 7 0)) : Pr (m_sw M i k r s n x q cnt) := by
  unfold m_sw
  by_cases e0 : k = 0
  · rw [if_pos e0]; exact h0
  rw [if_neg e0]
  by_cases e1 : k = 1
  · rw [if_pos e1]; exact h1 _ _
  rw [if_neg e1]
  by_cases e2 : k = 2
  · rw [if_pos e2]; exact h2
  rw [if_neg e2]
  by_cases e3 : k = 3
  · rw [if_pos e3]; exact h1 _ _
  rw [if_neg e3]
  by_cases e4 : k = 4
  · rw [if_pos e4]; exact h1 _ _
  rw [if_neg e4]
  by_cases e5 : k = 5
  · rw [if_pos e5]; exact h1 _ _
  rw [if_neg e5]
  by_cases e6 : k = 6
  · rw [if_pos e6]; exact h6
  rw [if_neg e6]
  by_cases e7 : k = 7
  · rw [if_pos e7]; exact h7
  rw [if_neg e7]
  by_cases e8 : k = 8
  · rw [if_pos e8]; exact h8 _
  rw [if_neg e8]
  by_cases e9 : k = 9
  · rw [if_pos e9]; exact h8 _
  rw [if_neg e9]
  by_cases e10 : k = 10
  · rw [if_pos e10]; exact h10
  rw [if_neg e10]
  by_cases e11 : k = 11
  · rw [if_pos e11]; exact h11
  rw [if_neg e11]
  by_cases e12 : k = 12
  · rw [if_pos e12]; exact h12 _
  rw [if_neg e12]; exact h13
theorem m_sw_out {k r s n x cnt : Int32} {q : Nat} (h : a < i ∨ i + 4 < a) : m_sw M i k r s n x q cnt a b = M a b :=
  m_sw_ind (fun Z => Z a b = M a b) (m_read_out h) (fun _ _ => m_make_out h) (m_carry_out h) (m_load_out h) (m_store_out h) (fun _ => m_goIf_out h) (u_out0 h) (m_jump_out h) (fun _ => m_tell_out h) (u_out0 h)
theorem m_fin_p (h : M i 8 = -1) : m_fin M i = up2 M i 6 (M i 6 + 1) := by simp only [m_fin, if_pos h, if_true]
theorem m_fin_n (h : ¬ M i 8 = -1) : m_fin M i = M := by
  simp only [m_fin, if_neg h]; exact if_neg (by decide)
theorem m_fin_out (h : a < i ∨ i + 4 < a) : m_fin M i a b = M a b := by
  by_cases e : M i 8 = -1
  · rw [m_fin_p e]; exact u_out0 h
  · rw [m_fin_n e]
theorem m_act_out {p q : Nat} {x : Int32} (h : a < i ∨ i + 4 < a) : m_act M i p x q a b = M a b := by
  simp only [m_act]; rw [m_fin_out h, m_sw_out h, u_out0 h]
theorem m_one_out {p q : Nat} (h : a < i ∨ i + 4 < a) : m_one M i p q a b = M a b := by
  simp only [m_one]; split
  · exact u_out0 h
  · split
    · split
      · exact m_act_out h
      · exact u_out0 h
    · exact u_out0 h
theorem m_clear_out (h : a < i ∨ i + 4 < a) : m_clear M i a b = M a b := by
  simp only [m_clear]
  rw [u_out0 h, u_out0 h, u_out0 h, u_out0 h, u_out0 h, u_out0 h, u_out0 h, u_out0 h, u_out0 h]
  simp only [b_fill]
  rw [if_neg (by omega), if_neg (by omega), if_neg (by omega)]
theorem m_it_out {p q n : Nat} (h : a < i ∨ i + 4 < a) : m_it i p q n M a b = M a b := by
  induction n generalizing M with
  | zero => rfl
  | succ n ih =>
    simp only [m_it]; split
    · rw [ih, m_one_out h]
    · rfl
theorem m_run_out {p q : Nat} (h : a < i ∨ i + 4 < a) : m_run M i p q a b = M a b := by
  rw [m_run, m_it_out h, m_clear_out h]
theorem m_carry_0 (x v t : Int32) (k : Nat) : m_carry M i x v t i k = M i k := by
  simp only [m_carry, up2_n1 _ _ (show i ≠ i + 1 by omega), up2_n1 _ _ (show i ≠ i + 2 by omega), up2_n1 _ _ (show i ≠ i + 3 by omega)]
theorem m_bad_4 (x v t : Int32) : m_bad M i x v t i 4 = M i 4 := by
  simp only [m_bad, up2_n2 _ _ (show 4 ≠ 7 by decide), up2_n2 _ _ (show 4 ≠ 8 by decide), up2_n2 _ _ (show 4 ≠ 9 by decide), up2_n2 _ _ (show 4 ≠ 10 by decide), up2_n2 _ _ (show 4 ≠ 11 by decide)]
theorem m_sw_4 {k r s n x cnt : Int32} {q : Nat} : m_sw M i k r s n x q cnt i 4 = M i 4 ∨ m_sw M i k r s n x q cnt i 4 = M i 4 + 1 := by
  refine m_sw_ind (fun Z => Z i 4 = M i 4 ∨ Z i 4 = M i 4 + 1) ?_ (fun _ _ => Or.inl (m_make_0 M i _ _ _ _ 4)) (Or.inl (m_carry_0 _ _ _ 4)) ?_ ?_ (fun z => ?_) (Or.inl (up2_n2 _ _ (by decide))) ?_ (fun v => Or.inr ?_) (Or.inl (up2_n2 _ _ (by decide)))
  · left; simp only [m_read]; split
    · exact m_make_0 M i _ _ _ _ 4
    · rw [up2_n2 _ _ (show 4 ≠ 5 by decide)]; exact m_make_0 M i _ _ _ _ 4
  · left; simp only [m_load]; split
    · exact m_bad_4 _ _ _
    · exact m_carry_0 _ _ _ 4
  · left; simp only [m_store]; split
    · exact m_bad_4 _ _ _
    · exact m_carry_0 _ _ _ 4
  · left; simp only [m_goIf]; split
    · rfl
    · exact up2_n2 _ _ (by decide)
  · left; simp only [m_jump]; split
    · exact m_bad_4 _ _ _
    · split
      · exact m_bad_4 _ _ _
      · exact up2_n2 _ _ (by decide)
  · simp only [m_tell, up2_eq]
theorem m_fin_4 : m_fin M i i 4 = M i 4 := by
  by_cases e : M i 8 = -1
  · rw [m_fin_p e]; exact up2_n2 _ _ (by decide)
  · rw [m_fin_n e]
theorem m_one_4 {p q : Nat} : m_one M i p q i 4 = M i 4 ∨ m_one M i p q i 4 = M i 4 + 1 := by
  by_cases e0 : M i 12 < 0
  · rw [m_one, if_pos e0]; exact Or.inl (up2_n2 _ _ (by decide))
  rw [m_one, if_neg e0]
  by_cases e1 : M i 12 < M p 4
  · rw [if_pos e1]
    by_cases e2 : M i 6 < 1000
    · rw [if_pos e2, m_act, m_fin_4]
      have h := m_sw_4 (M := up2 M i 12 (M i 12 + 1)) (i := i) (k := M (p + 1) (M i 12).toNatClampNeg) (r := M (p + 2) (M i 12).toNatClampNeg) (s := M (p + 3) (M i 12).toNatClampNeg) (n := M (p + 4) (M i 12).toNatClampNeg) (x := M i 12) (q := q) (cnt := M p 4)
      rw [up2_n2 _ _ (show 4 ≠ 12 by decide)] at h
      exact h
    · rw [if_neg e2]; exact Or.inl (up2_n2 _ _ (by decide))
  · rw [if_neg e1]; exact Or.inl (up2_n2 _ _ (by decide))
end MO
/-- what holds of the memory in a RUN that began at M0, after j turns -/
def okT (M0 M : Nat → Nat → Int32) (i j : Nat) : Prop := (∀ a b, (a < i ∨ i + 4 < a) → M a b = M0 a b) ∧ ∃ c, c ≤ j ∧ M i 4 = nI c
theorem okT.one {M0 M : Nat → Nat → Int32} {i j : Nat} (h : okT M0 M i j) (p q : Nat) : okT M0 (m_one M i p q) i (j + 1) := by
  obtain ⟨h1, c, hc, h2⟩ := h
  refine ⟨fun a b hab => by rw [m_one_out hab]; exact h1 a b hab, ?_⟩
  rcases m_one_4 (M := M) (i := i) (p := p) (q := q) with e | e
  · exact ⟨c, by omega, e.trans h2⟩
  · exact ⟨c + 1, by omega, by rw [e, h2, nI_succ]⟩
theorem okT.clear (M : Nat → Nat → Int32) (i : Nat) : okT M (m_clear M i) i 0 := by
  refine ⟨fun a b hab => m_clear_out hab, 0, Nat.le_refl 0, ?_⟩
  simp only [m_clear]
  rw [up2_n2 _ _ (by decide), up2_n2 _ _ (by decide), up2_n2 _ _ (by decide), up2_n2 _ _ (by decide), up2_n2 _ _ (by decide), up2_n2 _ _ (by decide), up2_n2 _ _ (by decide), up2_n2 _ _ (by decide), up2_eq, nI_0]

theorem nlt_nle {x y : Int32} (h : x < y) : ¬ y ≤ x := by
  rw [Int32.lt_iff_toInt_lt] at h; rw [Int32.le_iff_toInt_le]; omega
theorem in_lt {x : Int32} {n : Nat} (h : vp_in x n) : x.toNatClampNeg < n := Nat.not_le.mp fun q => h (Or.inr q)

set_option maxHeartbeats 4000000 in
set_option maxRecDepth 100000 in
theorem c_X0_runWhole {l : Launch} {D : va_G} {w : gw} {M : Nat → Nat → Int32} {J : Nat → Nat → Int64} {R : Nat → Nat → Option Nat} {i p q : Nat} (hi : isMach w R i) (hp : isProg w R p) (hq : isRow w R q) (hP : okP M p) : Cf l yX0_runWhole wsX0_runWhole ({ frames := 3, cells := 0, slots := 0, locals := 74 } : Room) D w [.ref (w.2.1 i), .ref (w.2.1 p), .ref (w.2.1 q)] M J R none (m_run M i p q) J R := by
  obtain ⟨i_hi4, i_k, i_k1, i_k2, i_k3, i_k4, i_l1, i_l2, i_l3, i_l4, i_r0, i_r1, i_r2, i_r3⟩ := id hi
  have i_hi : i < w.1 := by omega
  have i_hi1 : i + 1 < w.1 := by omega
  have i_hi2 : i + 2 < w.1 := by omega
  have i_hi3 : i + 3 < w.1 := by omega
  obtain ⟨p_hi4, p_k, p_k1, p_k2, p_k3, p_k4, p_l1, p_l2, p_l3, p_l4, p_r0, p_r1, p_r2, p_r3⟩ := id hp
  have p_hi : p < w.1 := by omega
  have p_hi1 : p + 1 < w.1 := by omega
  have p_hi2 : p + 2 < w.1 := by omega
  have p_hi3 : p + 3 < w.1 := by omega
  obtain ⟨q_hi1, q_k, q_k1, q_0⟩ := id hq
  have q_hi : q < w.1 := by omega
  obtain ⟨n, hn80, hn, hok⟩ := hP
  have ap := quad_apart hi hp (by decide) (by decide) (by decide)
  have aq := row_apart hi hq (by decide) (by decide)
  refine Cg.of (own := RX0) (cc := cX0_runWhole) (maxL := 4) (ret := none) 1 (by decide) rfl rfl (Nat.le_of_ble_eq_true rfl) (fun X C hts V Rr => ?_)
  have F0 : FW X 0 := fun q h => hts q (List.mem_cons_of_mem _ (List.mem_append_left _ (List.mem_append_left _ (List.mem_append_right _ h))))
  have F2 : FW X 2 := fun q h => hts q (List.mem_cons_of_mem _ (List.mem_append_left _ (List.mem_append_right _ h)))
  have F3 : FW X 3 := fun q h => hts q (List.mem_cons_of_mem _ (List.mem_append_right _ h))
  show Gj X 0 0 w M J R 0 [some (.ref (w.2.1 i)), some (.ref (w.2.1 p)), some (.ref (w.2.1 q)), none] []
  have loop : ∀ d j M1, j + d = 1001 → okT M M1 i j → m_it i p q d M1 = m_run M i p q → Gj X 0 0 w M1 J R 6 [some (.ref (w.2.1 i)), some (.ref (w.2.1 p)), some (.ref (w.2.1 q)), some (.int (nI j))] [] := by
    intro d
    induction d with
    | zero =>
      intro j M1 hj hT hE
      refine g_iload_n C dX0_runWhole_6 rfl ?_
      refine g_sipush (v := 1000) C dX0_runWhole_7 (by decide) ?_
      refine g_icmp_gt (tgt := 81) C dX0_runWhole_10 (by decide) (fun c10 => ?_) (fun c10 => absurd c10 (not_not_intro (show (1000 : Int32) < nI j from nI_lt (a := 1000) (by omega) (by omega))))
      exact g_vret C Rr ⟨rfl, ⟨rfl, by rw [← hE]; rfl⟩⟩ dX0_runWhole_81
    | succ d ih =>
      intro j M1 hj hT hE
      obtain ⟨hT1, c, hc, hT2⟩ := id hT
      have hp4 : M1 p 4 = nI n := by rw [hT1 p 4 (by omega)]; exact hn
      refine g_iload_n C dX0_runWhole_6 rfl ?_
      refine g_sipush (v := 1000) C dX0_runWhole_7 (by decide) ?_
      refine g_icmp_gt (tgt := 81) C dX0_runWhole_10 (by decide) (fun c10 => absurd c10 (fun z => absurd ((nI_ltI (a := 1000) (b := j) (by omega) (by omega)).mp z) (by omega))) (fun c10 => ?_)
      refine g_aload_n C dX0_runWhole_13 rfl ?_
      refine g_geti C F0 i_hi i_k (by decide) 7 (by decide) rfl (hts (.fieldLink RX0 34 "FallBench$Machine" "ended" "I") (by decide +kernel)) rfl rfl dX0_runWhole_14 ?_
      refine g_iconst (v := (-1)) C dX0_runWhole_17 (by decide) ?_
      refine g_icmp_ne (tgt := 81) C dX0_runWhole_18 (by decide) (fun c18 => ?_) (fun c18 => ?_)
      · exact g_vret C Rr ⟨rfl, ⟨rfl, by rw [← hE]; simp only [m_it, if_neg c18]⟩⟩ dX0_runWhole_81
      · refine g_aload_n C dX0_runWhole_21 rfl ?_
        refine g_geti C F0 i_hi i_k (by decide) 12 (by decide) rfl (hts (.fieldLink RX0 49 "FallBench$Machine" "next" "I") (by decide +kernel)) rfl rfl dX0_runWhole_22 ?_
        refine g_if_lt (tgt := 39) C dX0_runWhole_25 (by decide) (fun c25 => ?_) (fun c25 => ?_)
        · refine g_aload_n C dX0_runWhole_39 rfl ?_
          refine g_iconst (v := 0) C dX0_runWhole_40 (by decide) ?_
          refine g_puti C F0 i_hi i_k (by decide) 7 (by decide) rfl (hts (.fieldLink RX0 34 "FallBench$Machine" "ended" "I") (by decide +kernel)) rfl rfl rfl rfl dX0_runWhole_41 ?_
          refine g_goto (tgt := 75) C dX0_runWhole_44 (by decide) ?_
          refine g_iinc (v := nI (j + 1)) C V.2.1 dX0_runWhole_75 rfl (nI_succ j).symm (by decide) rfl ?_
          refine g_goto (tgt := 6) C dX0_runWhole_78 (by decide) ?_
          refine Gj_mem (M' := m_one M1 i p q) (by simp only [m_one, if_pos c25]) ?_
          exact ih (j + 1) _ (by omega) (hT.one p q) (by rw [← hE]; simp only [m_it, if_pos c18])
        · refine g_aload_n C dX0_runWhole_28 rfl ?_
          refine g_geti C F0 i_hi i_k (by decide) 12 (by decide) rfl (hts (.fieldLink RX0 49 "FallBench$Machine" "next" "I") (by decide +kernel)) rfl rfl dX0_runWhole_29 ?_
          refine g_aload_n C dX0_runWhole_32 rfl ?_
          refine g_geti C F2 p_hi p_k (by decide) 4 (by decide) rfl (hts (.fieldLink RX0 55 "FallBench$Program" "count" "I") (by decide +kernel)) rfl rfl dX0_runWhole_33 ?_
          refine g_icmp_lt (tgt := 47) C dX0_runWhole_36 (by decide) (fun c36 => ?_) (fun c36 => ?_)
          · refine g_aload_n C dX0_runWhole_47 rfl ?_
            refine g_geti C F0 i_hi i_k (by decide) 6 (by decide) rfl (hts (.fieldLink RX0 31 "FallBench$Machine" "steps" "I") (by decide +kernel)) rfl rfl dX0_runWhole_48 ?_
            refine g_sipush (v := 1000) C dX0_runWhole_51 (by decide) ?_
            refine g_icmp_lt (tgt := 65) C dX0_runWhole_54 (by decide) (fun c54 => ?_) (fun c54 => ?_)
            · have ha : vp_in (M1 i 12) n := inOf (by omega) c25 (by rw [hp4] at c36; exact nlt_nle c36)
              refine g_aload_n C dX0_runWhole_65 rfl ?_
              refine g_aload_n C dX0_runWhole_66 rfl ?_
              refine g_aload_n C dX0_runWhole_67 rfl ?_
              refine g_geti C F0 i_hi i_k (by decide) 12 (by decide) rfl (hts (.fieldLink RX0 49 "FallBench$Machine" "next" "I") (by decide +kernel)) rfl rfl dX0_runWhole_68 ?_
              refine g_aload_n C dX0_runWhole_71 rfl ?_
              refine g_callVf C hts V (i := i) (gX0_runWhole_X0_doAct) rfl hdX0_doAct (by decide) (c_X0_doAct hi hp hq (in_mono ha hn80) (by have e := hok (M1 i 12).toNatClampNeg (in_lt ha); rw [hT1 (p + 1) _ (by omega), hT1 (p + 2) _ (by omega), hT1 (p + 3) _ (by omega)]; exact e) (by rw [hT2]; exact nI_pos (by omega))) i_hi i_k (by decide) rfl rfl (Nat.le_of_ble_eq_true rfl) dX0_runWhole_72 ?_
              refine g_iinc (v := nI (j + 1)) C V.2.1 dX0_runWhole_75 rfl (nI_succ j).symm (by decide) rfl ?_
              refine g_goto (tgt := 6) C dX0_runWhole_78 (by decide) ?_
              refine Gj_mem (M' := m_one M1 i p q) (by simp only [m_one, if_neg c25, if_pos c36, if_pos c54]) ?_
              exact ih (j + 1) _ (by omega) (hT.one p q) (by rw [← hE]; simp only [m_it, if_pos c18])
            · refine g_aload_n C dX0_runWhole_57 rfl ?_
              refine g_iconst (v := 4) C dX0_runWhole_58 (by decide) ?_
              refine g_puti C F0 i_hi i_k (by decide) 7 (by decide) rfl (hts (.fieldLink RX0 34 "FallBench$Machine" "ended" "I") (by decide +kernel)) rfl rfl rfl rfl dX0_runWhole_59 ?_
              refine g_goto (tgt := 75) C dX0_runWhole_62 (by decide) ?_
              refine g_iinc (v := nI (j + 1)) C V.2.1 dX0_runWhole_75 rfl (nI_succ j).symm (by decide) rfl ?_
              refine g_goto (tgt := 6) C dX0_runWhole_78 (by decide) ?_
              refine Gj_mem (M' := m_one M1 i p q) (by simp only [m_one, if_neg c25, if_pos c36, if_neg c54]) ?_
              exact ih (j + 1) _ (by omega) (hT.one p q) (by rw [← hE]; simp only [m_it, if_pos c18])
          · refine g_aload_n C dX0_runWhole_39 rfl ?_
            refine g_iconst (v := 0) C dX0_runWhole_40 (by decide) ?_
            refine g_puti C F0 i_hi i_k (by decide) 7 (by decide) rfl (hts (.fieldLink RX0 34 "FallBench$Machine" "ended" "I") (by decide +kernel)) rfl rfl rfl rfl dX0_runWhole_41 ?_
            refine g_goto (tgt := 75) C dX0_runWhole_44 (by decide) ?_
            refine g_iinc (v := nI (j + 1)) C V.2.1 dX0_runWhole_75 rfl (nI_succ j).symm (by decide) rfl ?_
            refine g_goto (tgt := 6) C dX0_runWhole_78 (by decide) ?_
            refine Gj_mem (M' := m_one M1 i p q) (by simp only [m_one, if_neg c25, if_neg c36]) ?_
            exact ih (j + 1) _ (by omega) (hT.one p q) (by rw [← hE]; simp only [m_it, if_pos c18])
  refine g_aload_n C dX0_runWhole_0 rfl ?_
  refine g_callVf C hts V (i := i) (gX0_runWhole_X0_clear) rfl hdX0_clear (by decide) (c_X0_clear hi) i_hi i_k (by decide) rfl rfl (Nat.le_of_ble_eq_true rfl) dX0_runWhole_1 ?_
  refine g_iconst (v := 0) C dX0_runWhole_4 (by decide) ?_
  refine g_istore_n C V.2.1 dX0_runWhole_5 (by decide) rfl ?_
  exact loop 1001 0 _ (by omega) (okT.clear M i) rfl
