/-! the numbers of a RUN stay in their bounds -/
def kI (K : Nat → Nat → Int32) (y : Int32) (N L c : Nat) : Prop := K 0 7 = -1 ∧ K 0 8 = -1 ∧ K 0 6 = y ∧ (∃ pl, pl ≤ N ∧ K 0 12 = nI pl) ∧ (∃ rc, rc ≤ L ∧ K 0 5 = nI rc) ∧ (∃ tc, tc ≤ c ∧ K 0 4 = nI tc)
theorem kI.same {K Z : Nat → Nat → Int32} {y : Int32} {N L c : Nat} (h : kI K y N L c) (e : ∀ b, Z 0 b = K 0 b) : kI Z y N L (c + 1) := by
  obtain ⟨h7, h8, h6, h12, h5, tc, ht, h4⟩ := h
  exact ⟨(e 7).trans h7, (e 8).trans h8, (e 6).trans h6, by rw [e 12]; exact h12, by rw [e 5]; exact h5, tc, by omega, (e 4).trans h4⟩
theorem kI.to {K : Nat → Nat → Int32} {y v : Int32} {N L c j : Nat} (h : kI K y N L c) (hj : j ≤ N) (hv : v = nI j) : kI (up2 K 0 12 v) y N L (c + 1) := by
  obtain ⟨h7, h8, h6, h12, h5, tc, ht, h4⟩ := h
  refine ⟨?_, ?_, ?_, ⟨j, hj, ?_⟩, ?_, tc, by omega, ?_⟩
  · rw [up2_n2 _ _ (by decide)]; exact h7
  · rw [up2_n2 _ _ (by decide)]; exact h8
  · rw [up2_n2 _ _ (by decide)]; exact h6
  · rw [up2_eq]; exact hv
  · rw [up2_n2 _ _ (by decide)]; exact h5
  · rw [up2_n2 _ _ (by decide)]; exact h4
theorem bad_7 (K : Nat → Nat → Int32) (how a x : Int32) : m_bad K 0 how a x 0 7 = how := by simp [m_bad, up2]
theorem kI.sw {K : Nat → Nat → Int32} {y a : Int32} {N c : Nat} {I : List Int32} {x : act4} (h : kI K y N I.length c) (hI : okI I) (hN : N ≤ 80) (hg : 8 ≤ x.1 ∧ x.1 ≤ 10 → ∃ j : Nat, j ≤ N ∧ x.2.2.2 = nI j) (z : k_sw K x a I (nI N) 0 7 = -1) : kI (k_sw K x a I (nI N)) y N I.length (c + 1) := by
  obtain ⟨k, r, s, n⟩ := x
  unfold k_sw at z ⊢
  dsimp only at z hg ⊢
  have mk : ∀ v u, kI (m_make K 0 r v a u) y N I.length (c + 1) := fun v u => h.same (fun b => m_make_0 K 0 r v a u b)
  have ca : ∀ f t u, kI (m_carry K 0 f t u) y N I.length (c + 1) := fun f t u => h.same (fun b => m_carry_0 f t u b)
  by_cases e0 : k = 0
  · rw [if_pos e0]
    obtain ⟨h7, h8, h6, h12, ⟨rc, hrc, h5⟩, tc, ht, h4⟩ := id h
    have hl := hI.1
    rw [h5, m_rd]
    rcases Nat.lt_or_ge rc I.length with g | g
    · have hin : inAt I (nI rc) = I.getD rc 0 := by
        rw [inAt, if_neg (nI_pos (by omega)), if_neg (nI_ge g (by omega)), nI_clamp (by omega)]
      have hne : ¬ I.getD rc 0 = -1 := fun q => (hI.2 rc g).1 (by rw [q]; decide)
      rw [hin, if_neg hne]
      refine ⟨?_, ?_, ?_, ?_, ⟨rc + 1, by omega, ?_⟩, tc, by omega, ?_⟩
      · rw [up2_n2 _ _ (by decide), m_make_0]; exact h7
      · rw [up2_n2 _ _ (by decide), m_make_0]; exact h8
      · rw [up2_n2 _ _ (by decide), m_make_0]; exact h6
      · rw [up2_n2 _ _ (by decide), m_make_0]; exact h12
      · rw [up2_eq, h5, nI_succ]
      · rw [up2_n2 _ _ (by decide), m_make_0]; exact h4
    · have hin : inAt I (nI rc) = -1 := by
        rw [inAt, if_neg (nI_pos (by omega)), if_pos (nI_le g (by omega))]
      rw [hin, if_pos rfl]; exact mk _ _
  rw [if_neg e0] at z ⊢
  by_cases e1 : k = 1
  · rw [if_pos e1]; exact mk _ _
  rw [if_neg e1] at z ⊢
  by_cases e2 : k = 2
  · rw [if_pos e2]; exact ca _ _ _
  rw [if_neg e2] at z ⊢
  by_cases e3 : k = 3
  · rw [if_pos e3]; exact mk _ _
  rw [if_neg e3] at z ⊢
  by_cases e4 : k = 4
  · rw [if_pos e4]; exact mk _ _
  rw [if_neg e4] at z ⊢
  by_cases e5 : k = 5
  · rw [if_pos e5]; exact mk _ _
  rw [if_neg e5] at z ⊢
  by_cases e6 : k = 6
  · rw [if_pos e6, m_load] at z ⊢
    by_cases g : isPl (K (0 + 1) s.toNatClampNeg) = 0
    · rw [if_pos g, bad_7] at z; exact absurd z (by decide)
    · rw [if_neg g]; exact ca _ _ _
  rw [if_neg e6] at z ⊢
  by_cases e7 : k = 7
  · rw [if_pos e7, m_store] at z ⊢
    by_cases g : isPl (K (0 + 1) r.toNatClampNeg) = 0
    · rw [if_pos g, bad_7] at z; exact absurd z (by decide)
    · rw [if_neg g]; exact ca _ _ _
  rw [if_neg e7] at z ⊢
  have gi : ∀ u, (8 ≤ k ∧ k ≤ 10) → kI (m_goIf K 0 u n) y N I.length (c + 1) := fun u hk => by
    rw [m_goIf]
    by_cases g : u = 0
    · rw [if_pos g]; exact h.same (fun _ => rfl)
    · rw [if_neg g]; obtain ⟨j, hj, hn⟩ := hg hk; exact h.to hj hn
  by_cases e8 : k = 8
  · rw [if_pos e8]; exact gi _ (by rw [e8]; decide)
  rw [if_neg e8] at z ⊢
  by_cases e9 : k = 9
  · rw [if_pos e9]; exact gi _ (by rw [e9]; decide)
  rw [if_neg e9] at z ⊢
  by_cases e10 : k = 10
  · rw [if_pos e10]; obtain ⟨j, hj, hn⟩ := hg (by rw [e10]; decide); exact h.to hj hn
  rw [if_neg e10] at z ⊢
  by_cases e11 : k = 11
  · rw [if_pos e11, m_jump] at z ⊢
    by_cases g : K (0 + 1) r.toNatClampNeg < 0
    · rw [if_pos g, bad_7] at z; exact absurd z (by decide)
    rw [if_neg g] at z ⊢
    by_cases g2 : nI N ≤ K (0 + 1) r.toNatClampNeg
    · rw [if_pos g2, bad_7] at z; exact absurd z (by decide)
    rw [if_neg g2]
    obtain ⟨j, hj, hv⟩ := vp_in_of (inOf (n := N) (by omega) g g2) (by omega)
    exact h.to (by omega) hv
  rw [if_neg e11] at z ⊢
  by_cases e12 : k = 12
  · rw [if_pos e12, m_tell]
    obtain ⟨h7, h8, h6, h12, h5, tc, ht, h4⟩ := id h
    have q : ∀ b, b ≠ 4 → up2 (if 40 ≤ K 0 4 then K else up2 K (0 + 4) (K 0 4).toNatClampNeg (K 1 r.toNatClampNeg)) 0 4 (K 0 4 + 1) 0 b = K 0 b := fun b hb => by
      rw [up2_n2 _ _ hb]
      by_cases g : 40 ≤ K 0 4
      · rw [if_pos g]
      · rw [if_neg g, up2_n1 _ _ (by decide)]
    exact ⟨(q 7 (by decide)).trans h7, (q 8 (by decide)).trans h8, (q 6 (by decide)).trans h6, by rw [q 12 (by decide)]; exact h12, by rw [q 5 (by decide)]; exact h5, tc + 1, by omega, by rw [up2_eq, h4, nI_succ]⟩
  rw [if_neg e12, up2_eq] at z
  exact absurd z (by decide)
theorem kI.one {K : Nat → Nat → Int32} {P : List act4} {I : List Int32} {c : Nat} (h : kI K (nI c) P.length I.length c) (hc : c ≤ 1000) (hI : okI I) (hL : okL P) (z : k_one P I K 0 7 = -1) : c < 1000 ∧ kI (k_one P I K) (nI (c + 1)) P.length I.length (c + 1) := by
  obtain ⟨h7, h8, h6, ⟨pl, hpl, h12⟩, h5, h4⟩ := id h
  have hl := hL.1
  unfold k_one at z ⊢
  have c0 : ¬ K 0 12 < 0 := by rw [h12]; exact nI_pos (by omega)
  rw [if_neg c0] at z ⊢
  by_cases c1 : K 0 12 < nI P.length
  · rw [if_pos c1] at z ⊢
    by_cases c2 : K 0 6 < 1000
    · rw [if_pos c2] at z ⊢
      have hc2 : c < 1000 := by rw [h6] at c2; exact (nI_ltI (a := c) (b := 1000) (by omega) (by decide)).mp c2
      have hp2 : pl < P.length := by rw [h12] at c1; exact (nI_ltI (by omega) (by omega)).mp c1
      refine ⟨hc2, ?_⟩
      have g1 : kI (up2 K 0 12 (K 0 12 + 1)) (nI c) P.length I.length c := by
        have g := h.to (c := c) (j := pl + 1) (v := K 0 12 + 1) hp2 (by rw [h12, nI_succ])
        obtain ⟨a1, a2, a3, a4, a5, -⟩ := g
        exact ⟨a1, a2, a3, a4, a5, by rw [up2_n2 _ _ (by decide)]; exact h4⟩
      have hj : (K 0 12).toNatClampNeg < P.length := by rw [h12, nI_clamp (by omega)]; exact hp2
      have z2 : k_sw (up2 K 0 12 (K 0 12 + 1)) (P.getD (K 0 12).toNatClampNeg (0, 0, 0, 0)) (K 0 12) I (nI P.length) 0 7 = -1 := by
        rw [← z]
        by_cases e : k_sw (up2 K 0 12 (K 0 12 + 1)) (P.getD (K 0 12).toNatClampNeg (0, 0, 0, 0)) (K 0 12) I (nI P.length) 0 8 = -1
        · rw [m_fin_p e, up2_n2 _ _ (by decide)]
        · rw [m_fin_n e]
      obtain ⟨a1, a2, a3, a4, a5, a6⟩ := g1.sw hI hl (hL.2 _ hj).2 z2
      rw [m_fin_p a2, a3]
      refine ⟨?_, ?_, ?_, ?_, ?_, ?_⟩
      · rw [up2_n2 _ _ (by decide)]; exact a1
      · rw [up2_n2 _ _ (by decide)]; exact a2
      · rw [up2_eq, nI_succ]
      · rw [up2_n2 _ _ (by decide)]; exact a4
      · rw [up2_n2 _ _ (by decide)]; exact a5
      · rw [up2_n2 _ _ (by decide)]; exact a6
    · rw [if_neg c2, up2_eq] at z; exact absurd z (by decide)
  · rw [if_neg c1, up2_eq] at z; exact absurd z (by decide)
def n_clr (M : Nat → Nat → Int32) (j : Nat) : Nat → Nat → Int32 := fun a b => if (a = 149 ∨ a = 151) ∧ b < j then 0 else if a = 150 ∧ b < j then -1 else M a b
theorem n_clr_0 (M : Nat → Nat → Int32) : n_clr M 0 = M := by funext a b; simp [n_clr]
theorem n_clr_s (M : Nat → Nat → Int32) (j : Nat) : up2 (up2 (up2 (n_clr M j) 149 j 0) 150 j (-1)) 151 j 0 = n_clr M (j + 1) := by
  funext a b
  by_cases h : b = j
  · subst h
    by_cases h1 : a = 149
    · subst h1; simp [up2, n_clr]
    · by_cases h2 : a = 150
      · subst h2; simp [up2, n_clr]
      · by_cases h3 : a = 151
        · subst h3; simp [up2, n_clr]
        · simp [up2, n_clr, h1, h2, h3]
  · have : (b < j + 1) ↔ (b < j) := by omega
    simp [up2, n_clr, h, this]
def n_ini (M : Nat → Nat → Int32) : Nat → Nat → Int32 := up2 (up2 (up2 (up2 (up2 (up2 (up2 (up2 (up2 (n_clr M 40) 134 30 (-1)) 134 31 (-1)) 134 32 0) 134 33 (-1)) 134 34 0) 134 35 0) 134 36 0) 134 37 0) 134 38 0
theorem n_ini_F (M : Nat → Nat → Int32) : nF M (n_ini M) := by
  have h : nF M (n_clr M 40) := fun a b h1 h2 => by
    simp only [n_clr]; rw [if_neg (by omega), if_neg (by omega)]
  exact ((((((((h.u _ (by omega)).u _ (by omega)).u _ (by omega)).u _ (by omega)).u _ (by omega)).u _ (by omega)).u _ (by omega)).u _ (by omega)).u _ (by omega)
theorem n_ini_Q (M : Nat → Nat → Int32) : Qs k_0 (winM (n_ini M)) := by
  refine ⟨fun b h1 h2 => ?_, fun a b h1 h2 h3 => ?_, fun b h1 h2 => ?_⟩
  · have : b = 4 ∨ b = 5 ∨ b = 6 ∨ b = 7 ∨ b = 8 ∨ b = 9 ∨ b = 10 ∨ b = 11 ∨ b = 12 := by omega
    rcases this with rfl | rfl | rfl | rfl | rfl | rfl | rfl | rfl | rfl <;> simp [winM, n_ini, up2, k_0, fm]
  · have : a = 1 ∨ a = 2 ∨ a = 3 := by omega
    rcases this with rfl | rfl | rfl <;> simp [winM, n_ini, up2, k_0, n_clr, h3]
  · exact absurd h2 (nI_pos (by omega))
theorem k_0_I (P : List act4) (I : List Int32) : kI k_0 (nI 0) P.length I.length 0 := ⟨rfl, rfl, rfl, ⟨0, Nat.zero_le _, rfl⟩, ⟨0, Nat.zero_le _, rfl⟩, 0, Nat.le_refl 0, rfl⟩
/-- one turn of the reference's loop -/
theorem n_turn {M : Nat → Nat → Int32} {K : Nat → Nat → Int32} {P : List act4} {I : List Int32} {s c : Nat} (hs : s < 3) (hP : progN M s P) (hI : inN M I) (hL : okL2 P) (hB : okI I) (hQ : Qs K (winM M)) (hK : kI K (nI c) P.length I.length c) (hc : c ≤ 1000) : Qk (k_one P I K) (winM (n_one M s)) ∧ (k_one P I K 0 7 = -1 → Qs (k_one P I K) (winM (n_one M s))) := by
  obtain ⟨h7, h8, h6, ⟨pl, hpl, h12⟩, ⟨rc, hrc, h5⟩, tc, htc, h4⟩ := id hK
  have hl := hL.1.1
  have hQ1 := hQ.one (I := I) hL.1 (c := tc) (by omega) h4
  have g7 : M 134 30 = -1 := (hQ.1 7 (by decide) (by decide)).symm.trans h7
  have g8 : M 134 31 = -1 := (hQ.1 8 (by decide) (by decide)).symm.trans h8
  have g6 : M 134 35 = nI c := (hQ.1 6 (by decide) (by decide)).symm.trans h6
  have g12 : M 134 38 = nI pl := (hQ.1 12 (by decide) (by decide)).symm.trans h12
  have g5 : M 134 37 = nI rc := (hQ.1 5 (by decide) (by decide)).symm.trans h5
  have key : Eb (winM (n_one M s)) (k_one P I (winM M)) ∧ (k_one P I (winM M) 0 7 = -1 → winM (n_one M s) = k_one P I (winM M)) := by
    have w12 : winM M 0 12 = nI pl := g12
    have w6 : winM M 0 6 = nI c := g6
    have c0 : ¬ winM M 0 12 < 0 := by rw [w12]; exact nI_pos (by omega)
    have one : ∀ {A B : Nat → Nat → Int32}, A = B → Eb A B ∧ (B 0 7 = -1 → A = B) := fun e => ⟨fun a b _ => by rw [e], fun _ => e⟩
    unfold n_one k_one
    rw [if_neg c0, hP.2.1]
    by_cases c1 : M 134 38 < nI P.length
    · have hp2 : pl < P.length := by rw [g12] at c1; exact (nI_ltI (by omega) (by omega)).mp c1
      rw [if_pos c1, if_pos (show winM M 0 12 < nI P.length from c1)]
      have hat : n_at s M = 80 * s + pl := by
        rw [n_at, g12, show (80 : Int32) * nI s = nI (80 * s) from pk_mul 80 s, nI_add, nI_clamp (by omega)]
      have hx := hP.2.2 pl hp2
      rw [← hat] at hx
      by_cases c2 : winM M 0 6 < 1000
      · rw [if_pos c2]
        have hst : ¬ M 134 35 = 1000 := fun q => by
          have : M 134 35 < 1000 := c2
          rw [q] at this; exact absurd this (by decide)
        rw [w12, nI_clamp (by omega), ← hx, ← w12]
        have hk := hL.2 pl hp2
        rw [← hx] at hk
        exact ns_all hk g8 hI hB hrc g5 hst (by rw [g12]; intro q; exact absurd (show nI pl < 0 by rw [q]; decide) (nI_pos (by omega)))
      · rw [if_neg c2]
        have hst : M 134 35 = 1000 := by
          rw [g6]
          have : ¬ nI c < nI 1000 := by rw [w6] at c2; exact c2
          have : c = 1000 := by
            rcases Nat.lt_or_ge c 1000 with q | q
            · exact absurd (nI_lt q (by decide)) this
            · omega
          rw [this]; rfl
        rw [n_step, if_pos hst, wM_30]
        exact one rfl
    · rw [if_neg c1, if_neg (show ¬ winM M 0 12 < nI P.length from c1), wM_30]
      exact one rfl
  obtain ⟨kb, ke⟩ := key
  constructor
  · refine ⟨fun b h1 h2 => ?_, fun a b h1 h2 h3 => ?_, fun b h1 h2 => ?_⟩
    · rw [kb 0 b (by omega)]; exact hQ1.1 b h1 (by omega)
    · rw [kb a b (by omega)]; exact hQ1.2.1 a b h1 h2 h3
    · rw [kb 4 b (by omega)]; exact hQ1.2.2 b h1 h2
  · intro z
    rw [ke ((hQ1.1 7 (by decide) (by decide)).symm.trans z)]
    exact hQ1
theorem progN.F {M M' : Nat → Nat → Int32} {s : Nat} {P : List act4} (h : progN M s P) (hF : nF M M') : progN M' s P :=
  ⟨h.1, by rw [hF 141 s (by omega) (by omega)]; exact h.2.1, fun k hk => by rw [hF 137 _ (by omega) (by omega), hF 138 _ (by omega) (by omega), hF 139 _ (by omega) (by omega), hF 140 _ (by omega) (by omega)]; exact h.2.2 k hk⟩
theorem inN.F {M M' : Nat → Nat → Int32} {I : List Int32} (h : inN M I) (hF : nF M M') : inN M' I :=
  ⟨by rw [hF 134 29 (by omega) (by omega)]; exact h.1, fun k hk => by rw [hF 148 _ (by omega) (by omega)]; exact h.2 k hk⟩
theorem n_one_F {M M' : Nat → Nat → Int32} (h : nF M M') (s : Nat) : nF M (n_one M' s) := by
  unfold n_one
  exact nF.ite (h.step _ _ _ _ _) (h.u _ (by omega))
/-- the ends are told by numbers of 0 and more -/
theorem k_one_7 {P : List act4} {I : List Int32} {K : Nat → Nat → Int32} (h : K 0 7 = -1) : k_one P I K 0 7 = -1 ∨ ¬ k_one P I K 0 7 < 0 := by
  have hsw : ∀ (x : act4) (a cnt : Int32) (K : Nat → Nat → Int32), K 0 7 = -1 → k_sw K x a I cnt 0 7 = -1 ∨ ¬ k_sw K x a I cnt 0 7 < 0 := by
    intro x a cnt K h
    obtain ⟨k, r, s, n⟩ := x
    unfold k_sw
    dsimp only
    have mk : ∀ v u, m_make K 0 r v a u 0 7 = -1 := fun v u => (m_make_0 K 0 r v a u 7).trans h
    have ca : ∀ f t u, m_carry K 0 f t u 0 7 = -1 := fun f t u => (m_carry_0 f t u 7).trans h
    have ba : ∀ how x : Int32, ¬ how < 0 → m_bad K 0 how a x 0 7 = -1 ∨ ¬ m_bad K 0 how a x 0 7 < 0 := fun how x hh => Or.inr (by rw [bad_7]; exact hh)
    have gi : ∀ u, m_goIf K 0 u n 0 7 = -1 := fun u => by
      rw [m_goIf]; split
      · exact h
      · rw [up2_n2 _ _ (by decide)]; exact h
    by_cases e0 : k = 0
    · rw [if_pos e0, m_rd]; left; split
      · exact mk _ _
      · rw [up2_n2 _ _ (by decide)]; exact mk _ _
    rw [if_neg e0]
    by_cases e1 : k = 1
    · rw [if_pos e1]; exact Or.inl (mk _ _)
    rw [if_neg e1]
    by_cases e2 : k = 2
    · rw [if_pos e2]; exact Or.inl (ca _ _ _)
    rw [if_neg e2]
    by_cases e3 : k = 3
    · rw [if_pos e3]; exact Or.inl (mk _ _)
    rw [if_neg e3]
    by_cases e4 : k = 4
    · rw [if_pos e4]; exact Or.inl (mk _ _)
    rw [if_neg e4]
    by_cases e5 : k = 5
    · rw [if_pos e5]; exact Or.inl (mk _ _)
    rw [if_neg e5]
    by_cases e6 : k = 6
    · rw [if_pos e6, m_load]; split
      · exact ba _ _ (by decide)
      · exact Or.inl (ca _ _ _)
    rw [if_neg e6]
    by_cases e7 : k = 7
    · rw [if_pos e7, m_store]; split
      · exact ba _ _ (by decide)
      · exact Or.inl (ca _ _ _)
    rw [if_neg e7]
    by_cases e8 : k = 8
    · rw [if_pos e8]; exact Or.inl (gi _)
    rw [if_neg e8]
    by_cases e9 : k = 9
    · rw [if_pos e9]; exact Or.inl (gi _)
    rw [if_neg e9]
    by_cases e10 : k = 10
    · rw [if_pos e10, up2_n2 _ _ (by decide)]; exact Or.inl h
    rw [if_neg e10]
    by_cases e11 : k = 11
    · rw [if_pos e11, m_jump]; split
      · exact ba _ _ (by decide)
      · split
        · exact ba _ _ (by decide)
        · rw [up2_n2 _ _ (by decide)]; exact Or.inl h
    rw [if_neg e11]
    by_cases e12 : k = 12
    · rw [if_pos e12, m_tell, up2_n2 _ _ (by decide)]; left; split
      · exact h
      · rw [up2_n1 _ _ (by decide)]; exact h
    rw [if_neg e12, up2_eq]; exact Or.inr (by decide)
  unfold k_one
  by_cases c0 : K 0 12 < 0
  · rw [if_pos c0, up2_eq]; exact Or.inr (by decide)
  rw [if_neg c0]
  by_cases c1 : K 0 12 < nI P.length
  · rw [if_pos c1]
    by_cases c2 : K 0 6 < 1000
    · rw [if_pos c2]
      have hf : ∀ Z : Nat → Nat → Int32, m_fin Z 0 0 7 = Z 0 7 := fun Z => by
        by_cases e : Z 0 8 = -1
        · rw [m_fin_p e, up2_n2 _ _ (by decide)]
        · rw [m_fin_n e]
      rw [hf]; exact hsw _ _ _ _ (by rw [up2_n2 _ _ (by decide)]; exact h)
    · rw [if_neg c2, up2_eq]; exact Or.inr (by decide)
  · rw [if_neg c1, up2_eq]; exact Or.inr (by decide)

set_option maxHeartbeats 4000000 in
set_option maxRecDepth 100000 in
theorem c_X8_runOn {l : Launch} {D : va_G} {w : gw} {M : Nat → Nat → Int32} {J : Nat → Nat → Int64} {R : Nat → Nat → Option Nat} (hw : w.1 = 166) (hR : LayM R) {s : Nat} {P : List act4} {I : List Int32} (hs : s < 3) (hP : progN M s P) (hI : inN M I) (hL : okL2 P) (hB : okI I) : Ct l yX8_runOn wsX8_runOn ({ frames := 2, cells := 0, slots := 0, locals := 53 } : Room) D w [.ref (w.2.1 134), .int (nI s)] (M, J, R) (fun v u => v = none ∧ u.2.1 = J ∧ u.2.2 = R ∧ nF M u.1 ∧ Qk (RUN P I) (winM u.1)) := by
  refine Cg.of (own := RX8) (cc := cX8_runOn) (maxL := 3) (ret := none) 1 (by decide) rfl rfl (Nat.le_of_ble_eq_true rfl) (fun X C hts V Rr => ?_)
  have F8 : FW X 8 := fun q h => hts q (List.mem_cons_of_mem _ (List.mem_append_right _ h))
  show Gj X 0 0 w M J R 0 [some (.ref (w.2.1 134)), some (.int (nI s)), none] []
  have hl := hL.1.1
  have done : ∀ M1, nF M M1 → Qk (RUN P I) (winM M1) → 0 ≤ M1 134 30 → Gj X 0 0 w M1 J R 80 [some (.ref (w.2.1 134)), some (.int (nI s)), some (.int (nI 40))] [] := by
    intro M1 hF hQ h0
    refine g_aload_n C dX8_runOn_80 rfl ?_
    refine g_geti C F8 (by rw [hw]; decide) rfl (by decide) 30 (by decide) rfl (hts (.fieldLink RX8 234 "FallBenchModel" "ended" "I") (by decide +kernel)) rfl rfl dX8_runOn_81 ?_
    refine g_if_ge (tgt := 130) C dX8_runOn_84 (by decide) (fun c84 => ?_) (fun c84 => absurd c84 (not_not_intro h0))
    exact g_vret C Rr ⟨rfl, ⟨rfl, rfl, rfl, hF, hQ⟩⟩ dX8_runOn_130
  have loop : ∀ n c K M1, c + n = 1001 → c ≤ 1000 → nF M M1 → Qs K (winM M1) → kI K (nI c) P.length I.length c → k_it P I n K = RUN P I → Gj X 0 0 w M1 J R 80 [some (.ref (w.2.1 134)), some (.int (nI s)), some (.int (nI 40))] [] := by
    intro n
    induction n with
    | zero => intro c K M1 h1 h2; exact absurd h1 (by omega)
    | succ n ih =>
      intro c K M1 hn hc hF hQ hK hR2
      obtain ⟨h7, h8, h6, ⟨pl, hpl, h12⟩, ⟨rc, hrc, h5⟩, tc, htc, h4⟩ := id hK
      have hP1 := hP.F hF
      have hI1 := hI.F hF
      have ht := n_turn hs hP1 hI1 hL hB hQ hK hc
      have g7 : M1 134 30 = -1 := (hQ.1 7 (by decide) (by decide)).symm.trans h7
      have g12 : M1 134 38 = nI pl := (hQ.1 12 (by decide) (by decide)).symm.trans h12
      have g5 : M1 134 37 = nI rc := (hQ.1 5 (by decide) (by decide)).symm.trans h5
      have g4 : M1 134 36 = nI tc := (hQ.1 4 (by decide) (by decide)).symm.trans h4
      have hat : 80 * nI s + M1 134 38 = nI (80 * s + pl) := by rw [g12, show (80 : Int32) * nI s = nI (80 * s) from pk_mul 80 s, nI_add]
      have next : Gj X 0 0 w (n_one M1 s) J R 80 [some (.ref (w.2.1 134)), some (.int (nI s)), some (.int (nI 40))] [] := by
        by_cases e : k_one P I K 0 7 = -1
        · obtain ⟨hc2, hK2⟩ := hK.one hc hB hL.1 e
          exact ih (c + 1) _ _ (by omega) (by omega) (n_one_F hF s) (ht.2 e) hK2 (by rw [← hR2]; simp only [k_it, if_pos h7])
        · have hfin : RUN P I = k_one P I K := by
            rw [← hR2]; simp only [k_it, if_pos h7]
            match n with
            | 0 => rfl
            | n + 1 => simp only [k_it, if_neg e]
          refine done _ (n_one_F hF s) (by rw [hfin]; exact ht.1) ?_
          have e2 : n_one M1 s 134 30 = k_one P I K 0 7 := (ht.1.1 7 (by decide) (by decide)).symm
          rw [e2]
          rcases k_one_7 (P := P) (I := I) h7 with q | q
          · exact absurd q e
          · exact le_of_nlt q
      refine g_aload_n C dX8_runOn_80 rfl ?_
      refine g_geti C F8 (by rw [hw]; decide) rfl (by decide) 30 (by decide) rfl (hts (.fieldLink RX8 234 "FallBenchModel" "ended" "I") (by decide +kernel)) rfl rfl dX8_runOn_81 ?_
      refine g_if_ge (tgt := 130) C dX8_runOn_84 (by decide) (fun c84 => absurd c84 (by rw [g7]; decide)) (fun c84 => ?_)
      refine g_aload_n C dX8_runOn_87 rfl ?_
      refine g_geti C F8 (by rw [hw]; decide) rfl (by decide) 38 (by decide) rfl (hts (.fieldLink RX8 258 "FallBenchModel" "place" "I") (by decide +kernel)) rfl rfl dX8_runOn_88 ?_
      refine g_aload_n C dX8_runOn_91 rfl ?_
      refine g_getr (j := 141) C F8 (by rw [hw]; decide) rfl (by decide) 15 (by decide) rfl (hts (.fieldLink RX8 33 "FallBenchModel" "many" "[I") (by decide +kernel)) rfl (hR (15, 141) (by decide)) dX8_runOn_92 ?_
      refine g_iload_n C dX8_runOn_95 rfl ?_
      refine g_iald (v := M1 141 s) C (by rw [hw]; decide) rfl (vp_in_nI (N := 4) (by omega) (by decide)) (by rw [nI_clamp (by omega)]) dX8_runOn_96 ?_
      refine g_icmp_lt (tgt := 108) C dX8_runOn_97 (by decide) (fun c97 => ?_) (fun c97 => ?_)
      · have hp2 : pl < P.length := by rw [g12, hP1.2.1] at c97; exact (nI_ltI (by omega) (by omega)).mp c97
        have hx := hP1.2.2 pl hp2
        have e99 : (80 * nI s + M1 134 38).toNatClampNeg = 80 * s + pl := by rw [hat, nI_clamp (by omega)]
        rw [← e99] at hx
        have hoA := (hL.1.2 pl hp2).1
        have hk14 := hL.2 pl hp2
        rw [← hx] at hoA hk14
        refine g_aload_n C dX8_runOn_108 rfl ?_
        refine g_bipush (v := 80) C dX8_runOn_109 (by decide) ?_
        refine g_iload_n C dX8_runOn_111 rfl ?_
        refine g_imul C dX8_runOn_112 ?_
        refine g_aload_n C dX8_runOn_113 rfl ?_
        refine g_geti C F8 (by rw [hw]; decide) rfl (by decide) 38 (by decide) rfl (hts (.fieldLink RX8 258 "FallBenchModel" "place" "I") (by decide +kernel)) rfl rfl dX8_runOn_114 ?_
        refine g_iadd C dX8_runOn_117 ?_
        refine g_aload_n C dX8_runOn_118 rfl ?_
        refine g_getr (j := 141) C F8 (by rw [hw]; decide) rfl (by decide) 15 (by decide) rfl (hts (.fieldLink RX8 33 "FallBenchModel" "many" "[I") (by decide +kernel)) rfl (hR (15, 141) (by decide)) dX8_runOn_119 ?_
        refine g_iload_n C dX8_runOn_122 rfl ?_
        refine g_iald (v := M1 141 s) C (by rw [hw]; decide) rfl (vp_in_nI (N := 4) (by omega) (by decide)) (by rw [nI_clamp (by omega)]) dX8_runOn_123 ?_
        refine g_callVf C hts V (i := 134) (gX8_runOn_X8_step) rfl hdX8_step (by decide) (c_X8_step hw hR (by rw [hat]; exact vp_in_nI (by omega) (by decide)) hoA (fun q => hk14 (Or.inl q)) (by rw [g4]; exact nI_pos (by omega)) g7 (fun q => by rw [g5]; exact vp_in_nI (by have := hB.1; rcases Nat.lt_or_ge rc I.length with y | y; omega; exact absurd (show M1 134 29 ≤ M1 134 37 by rw [hI1.1, g5]; exact nI_le y (by omega)) q) (by decide))) (by rw [hw]; decide) rfl (by decide) rfl rfl (Nat.le_of_ble_eq_true rfl) dX8_runOn_124 ?_
        refine g_goto (tgt := 80) C dX8_runOn_127 (by decide) ?_
        refine Gj_mem (M' := n_one M1 s) (by rw [n_one, n_at]; rw [if_pos c97]) ?_
        exact next
      · refine g_aload_n C dX8_runOn_100 rfl ?_
        refine g_iconst (v := 0) C dX8_runOn_101 (by decide) ?_
        refine g_puti C F8 (by rw [hw]; decide) rfl (by decide) 30 (by decide) rfl (hts (.fieldLink RX8 234 "FallBenchModel" "ended" "I") (by decide +kernel)) rfl rfl rfl rfl dX8_runOn_102 ?_
        refine g_goto (tgt := 80) C dX8_runOn_105 (by decide) ?_
        refine Gj_mem (M' := n_one M1 s) (by rw [n_one, n_at]; rw [if_neg c97]) ?_
        exact next
  have clr : ∀ d j, j + d = 40 → Gj X 0 0 w (n_clr M j) J R 2 [some (.ref (w.2.1 134)), some (.int (nI s)), some (.int (nI j))] [] := by
    intro d
    induction d with
    | zero =>
      intro j hj
      obtain rfl : j = 40 := by omega
      refine g_iload_n C dX8_runOn_2 rfl ?_
      refine g_bipush (v := 40) C dX8_runOn_3 (by decide) ?_
      refine g_icmp_ge (tgt := 35) C dX8_runOn_5 (by decide) (fun c5 => ?_) (fun c5 => absurd c5 (not_not_intro (by decide)))
      refine g_aload_n C dX8_runOn_35 rfl ?_
      refine g_iconst (v := (-1)) C dX8_runOn_36 (by decide) ?_
      refine g_puti C F8 (by rw [hw]; decide) rfl (by decide) 30 (by decide) rfl (hts (.fieldLink RX8 234 "FallBenchModel" "ended" "I") (by decide +kernel)) rfl rfl rfl rfl dX8_runOn_37 ?_
      refine g_aload_n C dX8_runOn_40 rfl ?_
      refine g_iconst (v := (-1)) C dX8_runOn_41 (by decide) ?_
      refine g_puti C F8 (by rw [hw]; decide) rfl (by decide) 31 (by decide) rfl (hts (.fieldLink RX8 237 "FallBenchModel" "endAct" "I") (by decide +kernel)) rfl rfl rfl rfl dX8_runOn_42 ?_
      refine g_aload_n C dX8_runOn_45 rfl ?_
      refine g_iconst (v := 0) C dX8_runOn_46 (by decide) ?_
      refine g_puti C F8 (by rw [hw]; decide) rfl (by decide) 32 (by decide) rfl (hts (.fieldLink RX8 240 "FallBenchModel" "wrongValue" "I") (by decide +kernel)) rfl rfl rfl rfl dX8_runOn_47 ?_
      refine g_aload_n C dX8_runOn_50 rfl ?_
      refine g_iconst (v := (-1)) C dX8_runOn_51 (by decide) ?_
      refine g_puti C F8 (by rw [hw]; decide) rfl (by decide) 33 (by decide) rfl (hts (.fieldLink RX8 243 "FallBenchModel" "wrongMaker" "I") (by decide +kernel)) rfl rfl rfl rfl dX8_runOn_52 ?_
      refine g_aload_n C dX8_runOn_55 rfl ?_
      refine g_iconst (v := 0) C dX8_runOn_56 (by decide) ?_
      refine g_puti C F8 (by rw [hw]; decide) rfl (by decide) 34 (by decide) rfl (hts (.fieldLink RX8 246 "FallBenchModel" "wrongBytes" "I") (by decide +kernel)) rfl rfl rfl rfl dX8_runOn_57 ?_
      refine g_aload_n C dX8_runOn_60 rfl ?_
      refine g_iconst (v := 0) C dX8_runOn_61 (by decide) ?_
      refine g_puti C F8 (by rw [hw]; decide) rfl (by decide) 35 (by decide) rfl (hts (.fieldLink RX8 249 "FallBenchModel" "steps" "I") (by decide +kernel)) rfl rfl rfl rfl dX8_runOn_62 ?_
      refine g_aload_n C dX8_runOn_65 rfl ?_
      refine g_iconst (v := 0) C dX8_runOn_66 (by decide) ?_
      refine g_puti C F8 (by rw [hw]; decide) rfl (by decide) 36 (by decide) rfl (hts (.fieldLink RX8 252 "FallBenchModel" "outMany" "I") (by decide +kernel)) rfl rfl rfl rfl dX8_runOn_67 ?_
      refine g_aload_n C dX8_runOn_70 rfl ?_
      refine g_iconst (v := 0) C dX8_runOn_71 (by decide) ?_
      refine g_puti C F8 (by rw [hw]; decide) rfl (by decide) 37 (by decide) rfl (hts (.fieldLink RX8 255 "FallBenchModel" "readMany" "I") (by decide +kernel)) rfl rfl rfl rfl dX8_runOn_72 ?_
      refine g_aload_n C dX8_runOn_75 rfl ?_
      refine g_iconst (v := 0) C dX8_runOn_76 (by decide) ?_
      refine g_puti C F8 (by rw [hw]; decide) rfl (by decide) 38 (by decide) rfl (hts (.fieldLink RX8 258 "FallBenchModel" "place" "I") (by decide +kernel)) rfl rfl rfl rfl dX8_runOn_77 ?_
      exact loop 1001 0 k_0 (n_ini M) (by decide) (by decide) (n_ini_F M) (n_ini_Q M) (k_0_I P I) rfl
    | succ d ih =>
      intro j hj
      refine g_iload_n C dX8_runOn_2 rfl ?_
      refine g_bipush (v := 40) C dX8_runOn_3 (by decide) ?_
      refine g_icmp_ge (tgt := 35) C dX8_runOn_5 (by decide) (fun c5 => absurd c5 (fun z => absurd ((nI_leI (a := 40) (b := j) (by decide) (by omega)).mp z) (by omega))) (fun c5 => ?_)
      refine g_aload_n C dX8_runOn_8 rfl ?_
      refine g_getr (j := 149) C F8 (by rw [hw]; decide) rfl (by decide) 25 (by decide) rfl (hts (.fieldLink RX8 58 "FallBenchModel" "value" "[I") (by decide +kernel)) rfl (hR (25, 149) (by decide)) dX8_runOn_9 ?_
      refine g_iload_n C dX8_runOn_12 rfl ?_
      refine g_iconst (v := 0) C dX8_runOn_13 (by decide) ?_
      refine g_iast C (by rw [hw]; decide) rfl (vp_in_nI (N := 40) (by omega) (by decide)) dX8_runOn_14 ?_
      refine g_aload_n C dX8_runOn_15 rfl ?_
      refine g_getr (j := 150) C F8 (by rw [hw]; decide) rfl (by decide) 26 (by decide) rfl (hts (.fieldLink RX8 61 "FallBenchModel" "maker" "[I") (by decide +kernel)) rfl (hR (26, 150) (by decide)) dX8_runOn_16 ?_
      refine g_iload_n C dX8_runOn_19 rfl ?_
      refine g_iconst (v := (-1)) C dX8_runOn_20 (by decide) ?_
      refine g_iast C (by rw [hw]; decide) rfl (vp_in_nI (N := 40) (by omega) (by decide)) dX8_runOn_21 ?_
      refine g_aload_n C dX8_runOn_22 rfl ?_
      refine g_getr (j := 151) C F8 (by rw [hw]; decide) rfl (by decide) 27 (by decide) rfl (hts (.fieldLink RX8 64 "FallBenchModel" "came" "[I") (by decide +kernel)) rfl (hR (27, 151) (by decide)) dX8_runOn_23 ?_
      refine g_iload_n C dX8_runOn_26 rfl ?_
      refine g_iconst (v := 0) C dX8_runOn_27 (by decide) ?_
      refine g_iast C (by rw [hw]; decide) rfl (vp_in_nI (N := 40) (by omega) (by decide)) dX8_runOn_28 ?_
      refine g_iinc (v := nI (j + 1)) C V.2.1 dX8_runOn_29 rfl (nI_succ j).symm (by decide) rfl ?_
      refine g_goto (tgt := 2) C dX8_runOn_32 (by decide) ?_
      rw [nI_clamp (show j < 2 ^ 31 by omega), n_clr_s]
      exact ih (j + 1) (by omega)
  refine g_iconst (v := 0) C dX8_runOn_0 (by decide) ?_
  refine g_istore_n C V.2.1 dX8_runOn_1 (by decide) rfl ?_
  rw [← n_clr_0 M]
  exact clr 40 0 (by decide)
