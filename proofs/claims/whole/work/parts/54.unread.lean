/-! a byte that is not read does not matter -/
theorem fin_5 (Z : Nat → Nat → Int32) : m_fin Z 0 0 5 = Z 0 5 := by
  by_cases e : Z 0 8 = -1
  · rw [m_fin_p e, up2_n2 _ _ (by decide)]
  · rw [m_fin_n e]
theorem inAt_lt {I : List Int32} {c : Nat} (hl : I.length ≤ 24) (g : c < I.length) : inAt I (nI c) = I.getD c 0 := by
  rw [inAt, if_neg (nI_pos (by omega)), if_neg (nI_ge g (by omega)), nI_clamp (by omega)]
theorem inAt_ge {I : List Int32} {c : Nat} (hc : c < 2 ^ 31) (g : I.length ≤ c) : inAt I (nI c) = -1 := by
  rw [inAt, if_neg (nI_pos hc), if_pos (nI_le g hc)]
theorem k_sw_5 {I : List Int32} (hB : okI I) {Z : Nat → Nat → Int32} {rc : Nat} (hrc : rc ≤ I.length) (hz : Z 0 5 = nI rc) (x : act4) (a cnt : Int32) : k_sw Z x a I cnt 0 5 = nI rc ∨ (rc < I.length ∧ k_sw Z x a I cnt 0 5 = nI (rc + 1)) := by
  obtain ⟨k, r, s, n⟩ := x
  have hl := hB.1
  unfold k_sw
  dsimp only
  have u : ∀ (Z : Nat → Nat → Int32) (k : Nat) (v : Int32), k ≠ 5 → up2 Z 0 k v 0 5 = Z 0 5 := fun Z k v hk => up2_n2 _ _ (Ne.symm hk)
  have ba : ∀ how x : Int32, m_bad Z 0 how a x 0 5 = Z 0 5 := fun how x => by simp [m_bad, up2]
  have mk : ∀ v w, m_make Z 0 r v a w 0 5 = Z 0 5 := fun v w => m_make_0 Z 0 _ _ _ _ 5
  by_cases e0 : k = 0
  · rw [if_pos e0, hz, m_rd]
    rcases Nat.lt_or_ge rc I.length with g | g
    · rw [inAt_lt hl g, if_neg (fun q => (hB.2 rc g).1 (by rw [q]; decide)), up2_eq, hz]
      exact Or.inr ⟨g, (nI_succ rc).symm⟩
    · rw [inAt_ge (by omega) g, if_pos rfl]; exact Or.inl ((mk _ _).trans hz)
  rw [if_neg e0]
  refine Or.inl (Eq.trans ?_ hz)
  by_cases e1 : k = 1
  · rw [if_pos e1]; exact mk _ _
  rw [if_neg e1]
  by_cases e2 : k = 2
  · rw [if_pos e2]; exact m_carry_0 _ _ _ 5
  rw [if_neg e2]
  by_cases e3 : k = 3
  · rw [if_pos e3]; exact mk _ _
  rw [if_neg e3]
  by_cases e4 : k = 4
  · rw [if_pos e4]; exact mk _ _
  rw [if_neg e4]
  by_cases e5 : k = 5
  · rw [if_pos e5]; exact mk _ _
  rw [if_neg e5]
  by_cases e6 : k = 6
  · rw [if_pos e6, m_load]; split
    · exact ba _ _
    · exact m_carry_0 _ _ _ 5
  rw [if_neg e6]
  by_cases e7 : k = 7
  · rw [if_pos e7, m_store]; split
    · exact ba _ _
    · exact m_carry_0 _ _ _ 5
  rw [if_neg e7]
  have gi : ∀ v, m_goIf Z 0 v n 0 5 = Z 0 5 := fun v => by
    rw [m_goIf]; split
    · rfl
    · exact u _ _ _ (by decide)
  by_cases e8 : k = 8
  · rw [if_pos e8]; exact gi _
  rw [if_neg e8]
  by_cases e9 : k = 9
  · rw [if_pos e9]; exact gi _
  rw [if_neg e9]
  by_cases e10 : k = 10
  · rw [if_pos e10]; exact u _ _ _ (by decide)
  rw [if_neg e10]
  by_cases e11 : k = 11
  · rw [if_pos e11, m_jump]; split
    · exact ba _ _
    · split
      · exact ba _ _
      · exact u _ _ _ (by decide)
  rw [if_neg e11]
  by_cases e12 : k = 12
  · rw [if_pos e12, m_tell, u _ _ _ (by decide)]; split
    · rfl
    · exact up2_n1 _ _ (by decide)
  rw [if_neg e12]; exact u _ _ _ (by decide)
theorem k_one_5b {P : List act4} {I : List Int32} (hB : okI I) {K : Nat → Nat → Int32} {rc : Nat} (hrc : rc ≤ I.length) (h5 : K 0 5 = nI rc) : k_one P I K 0 5 = nI rc ∨ (rc < I.length ∧ k_one P I K 0 5 = nI (rc + 1)) := by
  have u : ∀ (Z : Nat → Nat → Int32) (k : Nat) (v : Int32), k ≠ 5 → up2 Z 0 k v 0 5 = Z 0 5 := fun Z k v hk => up2_n2 _ _ (Ne.symm hk)
  unfold k_one
  by_cases c0 : K 0 12 < 0
  · rw [if_pos c0, u _ _ _ (by decide)]; exact Or.inl h5
  rw [if_neg c0]
  by_cases c1 : K 0 12 < nI P.length
  · rw [if_pos c1]
    by_cases c2 : K 0 6 < 1000
    · rw [if_pos c2, fin_5]; exact k_sw_5 hB hrc (by rw [u _ _ _ (by decide)]; exact h5) _ _ _
    · rw [if_neg c2, u _ _ _ (by decide)]; exact Or.inl h5
  · rw [if_neg c1, u _ _ _ (by decide)]; exact Or.inl h5
theorem k_it_5 {P : List act4} {I : List Int32} (hB : okI I) : ∀ (n : Nat) {K : Nat → Nat → Int32} {rc : Nat}, rc ≤ I.length → K 0 5 = nI rc → ∃ d, rc ≤ d ∧ d ≤ I.length ∧ k_it P I n K 0 5 = nI d := by
  intro n
  induction n with
  | zero => intro K rc h1 h2; exact ⟨rc, Nat.le_refl _, h1, h2⟩
  | succ n ih =>
    intro K rc h1 h2
    unfold k_it
    by_cases e : K 0 7 = -1
    · rw [if_pos e]
      rcases k_one_5b (P := P) hB h1 h2 with q | ⟨q0, q⟩
      · exact ih h1 q
      · obtain ⟨d, d1, d2, d3⟩ := ih (rc := rc + 1) (by omega) q
        exact ⟨d, by omega, d2, d3⟩
    · rw [if_neg e]; exact ⟨rc, Nat.le_refl _, h1, h2⟩
/-- a step with byte k changed, where k bytes are read: it reads the byte, or all is the same -/
theorem k_one_k {P : List act4} {I : List Int32} (hB : okI I) {K : Nat → Nat → Int32} {k : Nat} (hk : k < I.length) (h5 : K 0 5 = nI k) (v : Int32) : k_one P (I.set k v) K = k_one P I K ∨ k_one P I K 0 5 = nI (k + 1) := by
  have hl := hB.1
  unfold k_one
  by_cases c0 : K 0 12 < 0
  · rw [if_pos c0]; exact Or.inl (if_pos c0).symm
  rw [if_neg c0, if_neg c0]
  by_cases c1 : K 0 12 < nI P.length
  · rw [if_pos c1, if_pos c1]
    by_cases c2 : K 0 6 < 1000
    · rw [if_pos c2, if_pos c2]
      by_cases e : (P.getD (K 0 12).toNatClampNeg (0, 0, 0, 0)).1 = 0
      · right
        rw [fin_5, k_sw, if_pos e, up2_n2 (k := 12) (b := 5) _ _ (by decide), h5, inAt_lt hl hk, m_rd, if_neg (fun q => (hB.2 k hk).1 (by rw [q]; decide)), up2_eq, up2_n2 _ _ (by decide), h5, nI_succ]
      · left
        rw [k_sw_in (I := I.set k v) (I' := I) (fun z => absurd z e)]
    · rw [if_neg c2]; exact Or.inl (if_neg c2).symm
  · rw [if_neg c1]; exact Or.inl (if_neg c1).symm
theorem k_it_unread {P : List act4} {I : List Int32} (hB : okI I) {k : Nat} (v : Int32) : ∀ (n : Nat) {K : Nat → Nat → Int32} {rc r : Nat}, rc ≤ I.length → K 0 5 = nI rc → k_it P I n K 0 5 = nI r → r ≤ k → r ≤ I.length → k_it P (I.set k v) n K = k_it P I n K := by
  have hl := hB.1
  intro n
  induction n with
  | zero => intro K rc r _ _ _ _ _; rfl
  | succ n ih =>
    intro K rc r h1 h2 h3 h4 h6
    unfold k_it at h3 ⊢
    by_cases e : K 0 7 = -1
    · rw [if_pos e] at h3 ⊢
      rw [if_pos e]
      have key : k_one P (I.set k v) K = k_one P I K := by
        by_cases ek : rc = k
        · subst ek
          rcases Nat.lt_or_ge rc I.length with g | g
          · rcases k_one_k (P := P) hB g h2 v with q | q
            · exact q
            · obtain ⟨d, d1, d2, d3⟩ := k_it_5 (P := P) hB n (K := k_one P I K) (rc := rc + 1) (by omega) q
              rw [d3] at h3
              have := (nI_eq (by omega) (by omega)).mp h3
              omega
          · rw [List.set_eq_of_length_le g]
        · exact k_one_in (by rw [h2, inAt_set I v ek (by omega)])
      rw [key]
      rcases k_one_5b (P := P) hB h1 h2 with q | ⟨q0, q⟩
      · exact ih h1 q h3 h4 h6
      · exact ih (rc := rc + 1) (by omega) q h3 h4 h6
    · rw [if_neg e]; exact (if_neg e).symm
/-- changed alone, a byte that the RUN has not read changes nothing -/
theorem run_unread {P : List act4} {I : List Int32} (hB : okI I) {k r : Nat} (v : Int32) (hr : r ≤ I.length) (h : RUN P I 0 5 = nI r) (hk : r ≤ k) : RUN P (I.set k v) = RUN P I :=
  k_it_unread hB v 1001 (rc := 0) (Nat.zero_le _) rfl h hk hr
