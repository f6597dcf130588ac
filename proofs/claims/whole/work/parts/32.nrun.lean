/-! the reference's RUN is THE RUN -/
theorem up2_id (M : Nat → Nat → Int32) (i k : Nat) {v : Int32} (h : M i k = v) : up2 M i k v = M := by
  funext a b; simp only [up2]; split
  · rename_i z; rw [z.1, z.2, h]
  · rfl
def okI (I : List Int32) : Prop := I.length ≤ 24 ∧ ∀ k, k < I.length → ¬ I.getD k 0 < 0 ∧ I.getD k 0 < 256
def okL2 (P : List act4) : Prop := okL P ∧ ∀ k, k < P.length → vp_in (P.getD k (0, 0, 0, 0)).1 14
def progN (M : Nat → Nat → Int32) (s : Nat) (P : List act4) : Prop := P.length ≤ 80 ∧ M 141 s = nI P.length ∧ ∀ k, k < P.length → (M 137 (80 * s + k), M 138 (80 * s + k), M 139 (80 * s + k), M 140 (80 * s + k)) = P.getD k (0, 0, 0, 0)
def inN (M : Nat → Nat → Int32) (I : List Int32) : Prop := M 134 29 = nI I.length ∧ ∀ k, k < I.length → M 148 k = I.getD k 0
def n_at (s : Nat) (M : Nat → Nat → Int32) : Nat := (80 * nI s + M 134 38).toNatClampNeg
def n_one (M : Nat → Nat → Int32) (s : Nat) : Nat → Nat → Int32 := if M 134 38 < M 141 s then n_step M (M 137 (n_at s M)) (M 138 (n_at s M)) (M 139 (n_at s M)) (M 140 (n_at s M)) (M 141 s) else up2 M 134 30 0
theorem fin_read (L : Nat → Nat → Int32) (h8 : L 0 8 = -1) (x v c a y : Int32) : m_fin (up2 (m_make (up2 L 0 12 (L 0 12 + 1)) 0 x v a c) 0 5 y) 0 = up2 (up2 (up2 (up2 (up2 (up2 L 0 6 (L 0 6 + 1)) 0 12 (L 0 12 + 1)) 1 x.toNatClampNeg v) 3 x.toNatClampNeg c) 0 5 y) 2 x.toNatClampNeg a := by
  have e := fin_make L h8 x v c a
  rw [m_fin_p (by rw [m_make_0, up2_n2 _ _ (by decide)]; exact h8)] at e
  rw [m_fin_p (by rw [up2_n2 _ _ (by decide), m_make_0, up2_n2 _ _ (by decide)]; exact h8), up2_n2 _ _ (show 6 ≠ 5 by decide), up2_comm _ _ _ (show ¬ ((0 : Nat) = 0 ∧ 5 = 6) by omega), e, up2_comm _ _ _ (show ¬ ((2 : Nat) = 0 ∧ x.toNatClampNeg = 5) by omega)]
section NS
variable {M : Nat → Nat → Int32} {I : List Int32} {r s n acts cnt : Int32}
theorem go_makes {k : Int32} (h : ¬ 5 < k) : n_go M k r s n = n_makes (up2 (up2 M 134 35 (M 134 35 + 1)) 134 38 (M 134 38 + 1)) k r s n (M 134 38) := by
  rw [n_go, if_neg h]
theorem go_carries {k : Int32} (h : 5 < k) (h7 : ¬ 7 < k) : n_go M k r s n = n_carries (up2 (up2 M 134 35 (M 134 35 + 1)) 134 38 (M 134 38 + 1)) k r s := by
  rw [n_go, if_pos h, if_neg h7]
theorem go_goes {k : Int32} (h : 5 < k) (h7 : 7 < k) : n_go M k r s n = n_goes (up2 (up2 M 134 35 (M 134 35 + 1)) 134 38 (M 134 38 + 1)) k r s n := by
  rw [n_go, if_pos h, if_pos h7]
theorem step_go {k : Int32} (hs : ¬ M 134 35 = 1000) (h6 : ¬ k = 6) (h7 : ¬ k = 7) (h11 : ¬ k = 11) : n_step M k r s n acts = n_go M k r s n := by
  rw [n_step, if_neg hs, if_neg h6, if_neg h7, if_neg h11]
/-- the places of the values, behind the step and the place -/
theorem st_1 (b : Nat) : up2 (up2 M 134 35 (M 134 35 + 1)) 134 38 (M 134 38 + 1) 149 b = M 149 b := by rw [up2_n1 _ _ (by decide), up2_n1 _ _ (by decide)]
theorem st_2 (b : Nat) : up2 (up2 M 134 35 (M 134 35 + 1)) 134 38 (M 134 38 + 1) 150 b = M 150 b := by rw [up2_n1 _ _ (by decide), up2_n1 _ _ (by decide)]
theorem st_3 (b : Nat) : up2 (up2 M 134 35 (M 134 35 + 1)) 134 38 (M 134 38 + 1) 151 b = M 151 b := by rw [up2_n1 _ _ (by decide), up2_n1 _ _ (by decide)]
theorem st_8 (b : Nat) : up2 (up2 M 134 35 (M 134 35 + 1)) 134 38 (M 134 38 + 1) 148 b = M 148 b := by rw [up2_n1 _ _ (by decide), up2_n1 _ _ (by decide)]
theorem st_f {b : Nat} (h1 : b ≠ 35) (h2 : b ≠ 38) : up2 (up2 M 134 35 (M 134 35 + 1)) 134 38 (M 134 38 + 1) 134 b = M 134 b := by rw [up2_n2 _ _ h2, up2_n2 _ _ h1]
theorem k1_1 (L : Nat → Nat → Int32) (v : Int32) {a : Nat} (h : a ≠ 0) (b : Nat) : up2 L 0 12 v a b = L a b := up2_n1 _ _ h
/-- what the class's step makes of the same -/
def kf (M : Nat → Nat → Int32) (k r s n : Int32) (I : List Int32) (cnt : Int32) : Nat → Nat → Int32 := m_fin (k_sw (up2 (winM M) 0 12 (winM M 0 12 + 1)) (k, r, s, n) (winM M 0 12) I cnt) 0
theorem ns_0 (h8 : M 134 31 = -1) (hI : inN M I) (hB : okI I) {c : Nat} (hc : c ≤ I.length) (hr : M 134 37 = nI c) (hs : ¬ M 134 35 = 1000) : winM (n_step M 0 r s n acts) = kf M 0 r s n I cnt := by
  have hl := hB.1
  rw [step_go hs (by decide) (by decide) (by decide), go_makes (by decide), n_makes, if_pos rfl, kf, k_sw, if_pos rfl]
  rw [st_f (b := 29) (by decide) (by decide), st_f (b := 37) (by decide) (by decide), st_8]
  have e5 : up2 (winM M) 0 12 (winM M 0 12 + 1) 0 5 = nI c := by rw [up2_n2 _ _ (by decide)]; exact hr
  rw [e5, hI.1, hr]
  dsimp only
  rcases Nat.lt_or_ge c I.length with h | h
  · have hin : inAt I (nI c) = I.getD c 0 := by
      rw [inAt, if_neg (nI_pos (by omega)), if_neg (nI_ge h (by omega)), nI_clamp (by omega)]
    have hne : ¬ I.getD c 0 = -1 := fun z => (hB.2 c h).1 (by rw [z]; decide)
    rw [if_neg (nI_ge h (by omega)), hin, m_rd, if_neg hne, e5, fin_read _ h8, nI_clamp (by omega), hI.2 c h, wM_150, wM_37, wM_151, wM_149, wM_stp]
    rfl
  · have hcc : c = I.length := by omega
    have hin : inAt I (nI c) = -1 := by
      rw [inAt, if_neg (nI_pos (by omega)), if_pos (nI_le h (by omega))]
    rw [if_pos (nI_le h (by omega)), hin, m_rd, if_pos rfl, fin_make _ h8, wM_150, wM_37, wM_151, wM_149, wM_stp]
    rw [up2_id _ 0 5 (v := nI c + 0)]
    · rfl
    · rw [up2_n1 _ _ (by decide), up2_n1 _ _ (by decide), up2_n2 _ _ (by decide), up2_n2 _ _ (by decide)]
      rw [show nI c + 0 = nI c from Int32.add_zero _]; exact hr

theorem ns_1 (h8 : M 134 31 = -1) (hs : ¬ M 134 35 = 1000) : winM (n_step M 1 r s n acts) = kf M 1 r s n I cnt := by
  rw [step_go hs (by decide) (by decide) (by decide), go_makes (by decide), n_makes, if_neg (by decide), if_pos rfl, kf, k_sw, if_neg (show ¬ (1 : Int32) = 0 by decide), if_pos rfl, wM_put, wM_stp]
  dsimp only
  rw [fin_make _ h8]
  rfl

theorem ns_3 (h8 : M 134 31 = -1) (hs : ¬ M 134 35 = 1000) : winM (n_step M 3 r s n acts) = kf M 3 r s n I cnt := by
  rw [step_go hs (by decide) (by decide) (by decide), go_makes (by decide), n_makes, if_neg (by decide), if_neg (by decide), if_neg (by decide), if_pos rfl, kf, k_sw, if_neg (show ¬ (3 : Int32) = 0 by decide), if_neg (show ¬ (3 : Int32) = 1 by decide), if_neg (show ¬ (3 : Int32) = 2 by decide), if_pos rfl, wM_put, wM_stp]
  dsimp only
  simp only [k1_1 _ _ (show (1 : Nat) ≠ 0 by decide), k1_1 _ _ (show (3 : Nat) ≠ 0 by decide), st_1, st_3]
  rw [fin_make _ h8]
  rfl

theorem ns_4 (h8 : M 134 31 = -1) (hs : ¬ M 134 35 = 1000) : winM (n_step M 4 r s n acts) = kf M 4 r s n I cnt := by
  rw [step_go hs (by decide) (by decide) (by decide), go_makes (by decide), n_makes, if_neg (by decide), if_neg (by decide), if_neg (by decide), if_neg (by decide), if_pos rfl, kf, k_sw, if_neg (show ¬ (4 : Int32) = 0 by decide), if_neg (show ¬ (4 : Int32) = 1 by decide), if_neg (show ¬ (4 : Int32) = 2 by decide), if_neg (show ¬ (4 : Int32) = 3 by decide), if_pos rfl, wM_put, wM_stp]
  dsimp only
  simp only [k1_1 _ _ (show (1 : Nat) ≠ 0 by decide), k1_1 _ _ (show (3 : Nat) ≠ 0 by decide), st_1, st_3]
  rw [fin_make _ h8]
  rfl

theorem ns_5 (h8 : M 134 31 = -1) (hs : ¬ M 134 35 = 1000) : winM (n_step M 5 r s n acts) = kf M 5 r s n I cnt := by
  rw [step_go hs (by decide) (by decide) (by decide), go_makes (by decide), n_makes, if_neg (by decide), if_neg (by decide), if_neg (by decide), if_neg (by decide), if_neg (by decide), kf, k_sw, if_neg (show ¬ (5 : Int32) = 0 by decide), if_neg (show ¬ (5 : Int32) = 1 by decide), if_neg (show ¬ (5 : Int32) = 2 by decide), if_neg (show ¬ (5 : Int32) = 3 by decide), if_neg (show ¬ (5 : Int32) = 4 by decide), if_pos rfl, wM_put, wM_stp]
  dsimp only
  simp only [k1_1 _ _ (show (1 : Nat) ≠ 0 by decide), k1_1 _ _ (show (3 : Nat) ≠ 0 by decide), st_1, st_3]
  rw [fin_make _ h8]
  rfl

theorem ns_2 (h8 : M 134 31 = -1) (hs : ¬ M 134 35 = 1000) : winM (n_step M 2 r s n acts) = kf M 2 r s n I cnt := by
  rw [step_go hs (by decide) (by decide) (by decide), go_makes (by decide), n_makes, if_neg (by decide), if_neg (by decide), if_pos rfl, kf, k_sw, if_neg (show ¬ (2 : Int32) = 0 by decide), if_neg (show ¬ (2 : Int32) = 1 by decide), if_pos rfl, wM_put, wM_stp]
  dsimp only
  rw [fin_carry _ h8]
  unfold m_carry
  simp only [Nat.zero_add, st_1, st_2, st_3, up2_n1 _ _ (show (1 : Nat) ≠ 0 by decide), up2_n1 _ _ (show (2 : Nat) ≠ 0 by decide), up2_n1 _ _ (show (3 : Nat) ≠ 0 by decide), Int32.or_zero]
  rw [up2_comm _ _ _ (show ¬ ((3 : Nat) = 2 ∧ r.toNatClampNeg = r.toNatClampNeg) by omega)]
  rfl
theorem ns_6 (h8 : M 134 31 = -1) (hs : ¬ M 134 35 = 1000) (hp : ¬ M 134 38 = -1) : Eb (winM (n_step M 6 r s n acts)) (kf M 6 r s n I cnt) ∧ (kf M 6 r s n I cnt 0 7 = -1 → winM (n_step M 6 r s n acts) = kf M 6 r s n I cnt) := by
  have e : kf M 6 r s n I cnt = m_fin (m_load (up2 (winM M) 0 12 (winM M 0 12 + 1)) 0 r s (winM M 0 12)) 0 := by
    rw [kf, k_sw, if_neg (show ¬ (6 : Int32) = 0 by decide), if_neg (show ¬ (6 : Int32) = 1 by decide), if_neg (show ¬ (6 : Int32) = 2 by decide), if_neg (show ¬ (6 : Int32) = 3 by decide), if_neg (show ¬ (6 : Int32) = 4 by decide), if_neg (show ¬ (6 : Int32) = 5 by decide), if_pos rfl]
  rw [e, n_step, if_neg hs, if_pos rfl, m_load]
  simp only [Nat.zero_add, k1_1 _ _ (show (1 : Nat) ≠ 0 by decide), k1_1 _ _ (show (3 : Nat) ≠ 0 by decide)]
  by_cases h : isPl (M 149 s.toNatClampNeg) = 0
  · rw [if_pos h, if_pos (show isPl (winM M 1 s.toNatClampNeg) = 0 from h), wM_fall]
    have hb := bad_eb (winM M) 1 (winM M 0 12) s (winM M 0 12 + 1) hp
    refine ⟨hb, fun z => ?_⟩
    rw [← hb 0 7 (by decide)] at z
    have : m_bad (winM M) 0 1 (winM M 0 12) s 0 7 = 1 := by simp [m_bad, up2]
    rw [this] at z; exact absurd z (by decide)
  · rw [if_neg h, if_neg (show ¬ isPl (winM M 1 s.toNatClampNeg) = 0 from h), go_carries (by decide) (by decide), n_carries, if_pos rfl, wM_carry, wM_stp, fin_carry _ h8, st_1, st_3]
    exact ⟨fun _ _ _ => rfl, fun _ => rfl⟩
theorem ns_7 (h8 : M 134 31 = -1) (hs : ¬ M 134 35 = 1000) (hp : ¬ M 134 38 = -1) : Eb (winM (n_step M 7 r s n acts)) (kf M 7 r s n I cnt) ∧ (kf M 7 r s n I cnt 0 7 = -1 → winM (n_step M 7 r s n acts) = kf M 7 r s n I cnt) := by
  have e : kf M 7 r s n I cnt = m_fin (m_store (up2 (winM M) 0 12 (winM M 0 12 + 1)) 0 r s (winM M 0 12)) 0 := by
    rw [kf, k_sw, if_neg (show ¬ (7 : Int32) = 0 by decide), if_neg (show ¬ (7 : Int32) = 1 by decide), if_neg (show ¬ (7 : Int32) = 2 by decide), if_neg (show ¬ (7 : Int32) = 3 by decide), if_neg (show ¬ (7 : Int32) = 4 by decide), if_neg (show ¬ (7 : Int32) = 5 by decide), if_neg (show ¬ (7 : Int32) = 6 by decide), if_pos rfl]
  rw [e, n_step, if_neg hs, if_neg (by decide), if_pos rfl, m_store]
  simp only [Nat.zero_add, k1_1 _ _ (show (1 : Nat) ≠ 0 by decide), k1_1 _ _ (show (3 : Nat) ≠ 0 by decide)]
  by_cases h : isPl (M 149 r.toNatClampNeg) = 0
  · rw [if_pos h, if_pos (show isPl (winM M 1 r.toNatClampNeg) = 0 from h), wM_fall]
    have hb := bad_eb (winM M) 2 (winM M 0 12) r (winM M 0 12 + 1) hp
    refine ⟨hb, fun z => ?_⟩
    rw [← hb 0 7 (by decide)] at z
    have : m_bad (winM M) 0 2 (winM M 0 12) r 0 7 = 2 := by simp [m_bad, up2]
    rw [this] at z; exact absurd z (by decide)
  · rw [if_neg h, if_neg (show ¬ isPl (winM M 1 r.toNatClampNeg) = 0 from h), go_carries (by decide) (by decide), n_carries, if_neg (by decide), wM_carry, wM_stp, fin_carry _ h8, st_1, st_3]
    exact ⟨fun _ _ _ => rfl, fun _ => rfl⟩
theorem ns_8 (h8 : M 134 31 = -1) (hs : ¬ M 134 35 = 1000) : winM (n_step M 8 r s n acts) = kf M 8 r s n I cnt := by
  have e : kf M 8 r s n I cnt = m_fin (m_goIf (up2 (winM M) 0 12 (winM M 0 12 + 1)) 0 (if up2 (winM M) 0 12 (winM M 0 12 + 1) 1 s.toNatClampNeg ≤ up2 (winM M) 0 12 (winM M 0 12 + 1) 1 r.toNatClampNeg then 0 else 1) n) 0 := by
    rw [kf, k_sw, if_neg (show ¬ (8 : Int32) = 0 by decide), if_neg (show ¬ (8 : Int32) = 1 by decide), if_neg (show ¬ (8 : Int32) = 2 by decide), if_neg (show ¬ (8 : Int32) = 3 by decide), if_neg (show ¬ (8 : Int32) = 4 by decide), if_neg (show ¬ (8 : Int32) = 5 by decide), if_neg (show ¬ (8 : Int32) = 6 by decide), if_neg (show ¬ (8 : Int32) = 7 by decide), if_pos rfl]
  rw [e, step_go hs (by decide) (by decide) (by decide), go_goes (by decide) (by decide), n_goes, if_pos rfl, st_1, st_1, k1_1 _ _ (by decide), k1_1 _ _ (by decide)]
  by_cases h : M 149 s.toNatClampNeg ≤ M 149 r.toNatClampNeg
  · rw [if_pos h, if_pos (show winM M 1 s.toNatClampNeg ≤ winM M 1 r.toNatClampNeg from h), m_goIf, if_pos rfl, wM_stp, fin_0 _ h8]
  · rw [if_neg h, if_neg (show ¬ winM M 1 s.toNatClampNeg ≤ winM M 1 r.toNatClampNeg from h), m_goIf, if_neg (by decide), wM_38, wM_stp, fin_u _ h8 _ _ (by decide) (by decide)]
theorem ns_9 (h8 : M 134 31 = -1) (hs : ¬ M 134 35 = 1000) : winM (n_step M 9 r s n acts) = kf M 9 r s n I cnt := by
  have e : kf M 9 r s n I cnt = m_fin (m_goIf (up2 (winM M) 0 12 (winM M 0 12 + 1)) 0 (if up2 (winM M) 0 12 (winM M 0 12 + 1) 1 r.toNatClampNeg = up2 (winM M) 0 12 (winM M 0 12 + 1) 1 s.toNatClampNeg then 1 else 0) n) 0 := by
    rw [kf, k_sw, if_neg (show ¬ (9 : Int32) = 0 by decide), if_neg (show ¬ (9 : Int32) = 1 by decide), if_neg (show ¬ (9 : Int32) = 2 by decide), if_neg (show ¬ (9 : Int32) = 3 by decide), if_neg (show ¬ (9 : Int32) = 4 by decide), if_neg (show ¬ (9 : Int32) = 5 by decide), if_neg (show ¬ (9 : Int32) = 6 by decide), if_neg (show ¬ (9 : Int32) = 7 by decide), if_neg (show ¬ (9 : Int32) = 8 by decide), if_pos rfl]
  rw [e, step_go hs (by decide) (by decide) (by decide), go_goes (by decide) (by decide), n_goes, if_neg (by decide), if_pos rfl, st_1, st_1, k1_1 _ _ (by decide), k1_1 _ _ (by decide)]
  by_cases h : M 149 r.toNatClampNeg = M 149 s.toNatClampNeg
  · rw [if_pos h, if_pos (show winM M 1 r.toNatClampNeg = winM M 1 s.toNatClampNeg from h), m_goIf, if_neg (by decide), wM_38, wM_stp, fin_u _ h8 _ _ (by decide) (by decide)]
  · rw [if_neg h, if_neg (show ¬ winM M 1 r.toNatClampNeg = winM M 1 s.toNatClampNeg from h), m_goIf, if_pos rfl, wM_stp, fin_0 _ h8]
theorem ns_10 (h8 : M 134 31 = -1) (hs : ¬ M 134 35 = 1000) : winM (n_step M 10 r s n acts) = kf M 10 r s n I cnt := by
  have e : kf M 10 r s n I cnt = m_fin (up2 (up2 (winM M) 0 12 (winM M 0 12 + 1)) 0 12 n) 0 := by
    rw [kf, k_sw, if_neg (show ¬ (10 : Int32) = 0 by decide), if_neg (show ¬ (10 : Int32) = 1 by decide), if_neg (show ¬ (10 : Int32) = 2 by decide), if_neg (show ¬ (10 : Int32) = 3 by decide), if_neg (show ¬ (10 : Int32) = 4 by decide), if_neg (show ¬ (10 : Int32) = 5 by decide), if_neg (show ¬ (10 : Int32) = 6 by decide), if_neg (show ¬ (10 : Int32) = 7 by decide), if_neg (show ¬ (10 : Int32) = 8 by decide), if_neg (show ¬ (10 : Int32) = 9 by decide), if_pos rfl]
  rw [e, step_go hs (by decide) (by decide) (by decide), go_goes (by decide) (by decide), n_goes, if_neg (by decide), if_neg (by decide), if_pos rfl, wM_38, wM_stp, fin_u _ h8 _ _ (by decide) (by decide)]
theorem ns_11 (h8 : M 134 31 = -1) (hs : ¬ M 134 35 = 1000) (hp : ¬ M 134 38 = -1) : Eb (winM (n_step M 11 r s n cnt)) (kf M 11 r s n I cnt) ∧ (kf M 11 r s n I cnt 0 7 = -1 → winM (n_step M 11 r s n cnt) = kf M 11 r s n I cnt) := by
  have e : kf M 11 r s n I cnt = m_fin (m_jump (up2 (winM M) 0 12 (winM M 0 12 + 1)) 0 r (winM M 0 12) cnt) 0 := by
    rw [kf, k_sw, if_neg (show ¬ (11 : Int32) = 0 by decide), if_neg (show ¬ (11 : Int32) = 1 by decide), if_neg (show ¬ (11 : Int32) = 2 by decide), if_neg (show ¬ (11 : Int32) = 3 by decide), if_neg (show ¬ (11 : Int32) = 4 by decide), if_neg (show ¬ (11 : Int32) = 5 by decide), if_neg (show ¬ (11 : Int32) = 6 by decide), if_neg (show ¬ (11 : Int32) = 7 by decide), if_neg (show ¬ (11 : Int32) = 8 by decide), if_neg (show ¬ (11 : Int32) = 9 by decide), if_neg (show ¬ (11 : Int32) = 10 by decide), if_pos rfl]
  have hb := bad_eb (winM M) 3 (winM M 0 12) r (winM M 0 12 + 1) hp
  have hd : m_fin (m_bad (up2 (winM M) 0 12 (winM M 0 12 + 1)) 0 3 (winM M 0 12) r) 0 0 7 = -1 → winM (n_fall M 3 r) = m_fin (m_bad (up2 (winM M) 0 12 (winM M 0 12 + 1)) 0 3 (winM M 0 12) r) 0 := fun z => by
    rw [← hb 0 7 (by decide)] at z
    have : m_bad (winM M) 0 3 (winM M 0 12) r 0 7 = 3 := by simp [m_bad, up2]
    rw [this] at z; exact absurd z (by decide)
  rw [e, n_step, if_neg hs, if_neg (by decide), if_neg (by decide), if_pos rfl, m_jump]
  simp only [Nat.zero_add, k1_1 _ _ (show (1 : Nat) ≠ 0 by decide)]
  by_cases h : M 149 r.toNatClampNeg < 0
  · rw [if_pos h, if_pos (show winM M 1 r.toNatClampNeg < 0 from h)]
    exact ⟨by rw [wM_fall]; exact hb, hd⟩
  rw [if_neg h, if_neg (show ¬ winM M 1 r.toNatClampNeg < 0 from h)]
  by_cases h2 : M 149 r.toNatClampNeg < cnt
  · rw [if_pos h2, if_neg (show ¬ cnt ≤ winM M 1 r.toNatClampNeg from nlt_nle h2), go_goes (by decide) (by decide), n_goes, if_neg (by decide), if_neg (by decide), if_neg (by decide), if_pos rfl, st_1, wM_38, wM_stp, fin_u _ h8 _ _ (by decide) (by decide)]
    exact ⟨fun _ _ _ => rfl, fun _ => rfl⟩
  · rw [if_neg h2, if_pos (show cnt ≤ winM M 1 r.toNatClampNeg from le_of_nlt h2)]
    exact ⟨by rw [wM_fall]; exact hb, hd⟩
theorem ns_12 (h8 : M 134 31 = -1) (hs : ¬ M 134 35 = 1000) : winM (n_step M 12 r s n acts) = kf M 12 r s n I cnt := by
  have e : kf M 12 r s n I cnt = m_fin (m_tell (up2 (winM M) 0 12 (winM M 0 12 + 1)) 0 (up2 (winM M) 0 12 (winM M 0 12 + 1) 1 r.toNatClampNeg)) 0 := by
    rw [kf, k_sw, if_neg (show ¬ (12 : Int32) = 0 by decide), if_neg (show ¬ (12 : Int32) = 1 by decide), if_neg (show ¬ (12 : Int32) = 2 by decide), if_neg (show ¬ (12 : Int32) = 3 by decide), if_neg (show ¬ (12 : Int32) = 4 by decide), if_neg (show ¬ (12 : Int32) = 5 by decide), if_neg (show ¬ (12 : Int32) = 6 by decide), if_neg (show ¬ (12 : Int32) = 7 by decide), if_neg (show ¬ (12 : Int32) = 8 by decide), if_neg (show ¬ (12 : Int32) = 9 by decide), if_neg (show ¬ (12 : Int32) = 10 by decide), if_neg (show ¬ (12 : Int32) = 11 by decide), if_pos rfl]
  rw [e, step_go hs (by decide) (by decide) (by decide), go_goes (by decide) (by decide), n_goes, if_neg (by decide), if_neg (by decide), if_neg (by decide), if_neg (by decide), if_pos rfl, st_1, st_f (b := 36) (by decide) (by decide), k1_1 _ _ (by decide), m_tell, up2_n2 (k := 12) _ _ (show 4 ≠ 12 by decide)]
  simp only [Nat.zero_add]
  by_cases h : 40 ≤ M 134 36
  · rw [if_pos h, if_pos (show 40 ≤ winM M 0 4 from h), wM_36, wM_stp, fin_u _ h8 _ _ (by decide) (by decide)]; rfl
  · rw [if_neg h, if_neg (show ¬ 40 ≤ winM M 0 4 from h), wM_36, wM_152, wM_stp]
    rw [m_fin_p (by rw [up2_n2 _ _ (by decide), up2_n1 _ _ (by decide), up2_n2 _ _ (by decide)]; exact h8), up2_n2 _ _ (show 6 ≠ 4 by decide), up2_n1 _ _ (show (0 : Nat) ≠ 4 by decide), up2_n2 _ _ (show 6 ≠ 12 by decide)]
    rw [up2_comm _ _ _ (show ¬ ((0 : Nat) = 0 ∧ 4 = 6) by omega), up2_comm _ _ _ (show ¬ ((4 : Nat) = 0 ∧ (winM M 0 4).toNatClampNeg = 6) by omega), up2_comm (winM M) _ _ (show ¬ ((0 : Nat) = 0 ∧ 12 = 6) by omega)]
    rfl
theorem ns_13 (h8 : M 134 31 = -1) (hs : ¬ M 134 35 = 1000) : winM (n_step M 13 r s n acts) = kf M 13 r s n I cnt := by
  have e : kf M 13 r s n I cnt = m_fin (up2 (up2 (winM M) 0 12 (winM M 0 12 + 1)) 0 7 0) 0 := by
    rw [kf, k_sw, if_neg (show ¬ (13 : Int32) = 0 by decide), if_neg (show ¬ (13 : Int32) = 1 by decide), if_neg (show ¬ (13 : Int32) = 2 by decide), if_neg (show ¬ (13 : Int32) = 3 by decide), if_neg (show ¬ (13 : Int32) = 4 by decide), if_neg (show ¬ (13 : Int32) = 5 by decide), if_neg (show ¬ (13 : Int32) = 6 by decide), if_neg (show ¬ (13 : Int32) = 7 by decide), if_neg (show ¬ (13 : Int32) = 8 by decide), if_neg (show ¬ (13 : Int32) = 9 by decide), if_neg (show ¬ (13 : Int32) = 10 by decide), if_neg (show ¬ (13 : Int32) = 11 by decide), if_neg (show ¬ (13 : Int32) = 12 by decide)]
  rw [e, step_go hs (by decide) (by decide) (by decide), go_goes (by decide) (by decide), n_goes, if_neg (by decide), if_neg (by decide), if_neg (by decide), if_neg (by decide), if_neg (by decide), wM_30, wM_stp, fin_u _ h8 _ _ (by decide) (by decide)]
theorem ns_all {k : Int32} (hk : vp_in k 14) (h8 : M 134 31 = -1) (hI : inN M I) (hB : okI I) {c : Nat} (hc : c ≤ I.length) (hr : M 134 37 = nI c) (hs : ¬ M 134 35 = 1000) (hp : ¬ M 134 38 = -1) : Eb (winM (n_step M k r s n cnt)) (kf M k r s n I cnt) ∧ (kf M k r s n I cnt 0 7 = -1 → winM (n_step M k r s n cnt) = kf M k r s n I cnt) := by
  have one : ∀ {A B : Nat → Nat → Int32}, A = B → Eb A B ∧ (B 0 7 = -1 → A = B) := fun e => ⟨fun a b _ => by rw [e], fun _ => e⟩
  obtain ⟨j, hj, rfl⟩ := vp_in_of hk (by decide)
  match j, hj with
  | 0, _ => exact one (ns_0 h8 hI hB hc hr hs)
  | 1, _ => exact one (ns_1 h8 hs)
  | 2, _ => exact one (ns_2 h8 hs)
  | 3, _ => exact one (ns_3 h8 hs)
  | 4, _ => exact one (ns_4 h8 hs)
  | 5, _ => exact one (ns_5 h8 hs)
  | 6, _ => exact ns_6 h8 hs hp
  | 7, _ => exact ns_7 h8 hs hp
  | 8, _ => exact one (ns_8 h8 hs)
  | 9, _ => exact one (ns_9 h8 hs)
  | 10, _ => exact one (ns_10 h8 hs)
  | 11, _ => exact ns_11 h8 hs hp
  | 12, _ => exact one (ns_12 h8 hs)
  | 13, _ => exact one (ns_13 h8 hs)
  | j + 14, h => exact absurd h (by omega)
end NS
