/-! the reference's machine and THE RUN -/
def fm (b : Nat) : Nat := match b with
  | 4 => 36
  | 5 => 37
  | 6 => 35
  | 7 => 30
  | 8 => 31
  | 9 => 32
  | 10 => 33
  | 11 => 34
  | 12 => 38
  | _ => 0
def winM (M : Nat → Nat → Int32) : Nat → Nat → Int32 := fun a b => if a = 0 then M 134 (fm b) else if a = 4 then M 152 b else M (148 + a) b
section WM
variable {M : Nat → Nat → Int32}
theorem fm_30 (b : Nat) : fm b = 30 ↔ b = 7 := by
  unfold fm; split <;> simp_all
theorem wM_30 (v : Int32) : winM (up2 M 134 30 v) = up2 (winM M) 0 7 v := by
  funext a b
  by_cases h : a = 0
  · subst h; simp [winM, up2, fm_30]
  · by_cases h4 : a = 4
    · subst h4; simp [winM, up2]
    · have : 148 + a ≠ 134 := by omega
      simp [winM, up2, h, h4, this]
theorem wr_30 : M 134 30 = winM M 0 7 := rfl
theorem fm_31 (b : Nat) : fm b = 31 ↔ b = 8 := by
  unfold fm; split <;> simp_all
theorem wM_31 (v : Int32) : winM (up2 M 134 31 v) = up2 (winM M) 0 8 v := by
  funext a b
  by_cases h : a = 0
  · subst h; simp [winM, up2, fm_31]
  · by_cases h4 : a = 4
    · subst h4; simp [winM, up2]
    · have : 148 + a ≠ 134 := by omega
      simp [winM, up2, h, h4, this]
theorem wr_31 : M 134 31 = winM M 0 8 := rfl
theorem fm_32 (b : Nat) : fm b = 32 ↔ b = 9 := by
  unfold fm; split <;> simp_all
theorem wM_32 (v : Int32) : winM (up2 M 134 32 v) = up2 (winM M) 0 9 v := by
  funext a b
  by_cases h : a = 0
  · subst h; simp [winM, up2, fm_32]
  · by_cases h4 : a = 4
    · subst h4; simp [winM, up2]
    · have : 148 + a ≠ 134 := by omega
      simp [winM, up2, h, h4, this]
theorem wr_32 : M 134 32 = winM M 0 9 := rfl
theorem fm_33 (b : Nat) : fm b = 33 ↔ b = 10 := by
  unfold fm; split <;> simp_all
theorem wM_33 (v : Int32) : winM (up2 M 134 33 v) = up2 (winM M) 0 10 v := by
  funext a b
  by_cases h : a = 0
  · subst h; simp [winM, up2, fm_33]
  · by_cases h4 : a = 4
    · subst h4; simp [winM, up2]
    · have : 148 + a ≠ 134 := by omega
      simp [winM, up2, h, h4, this]
theorem wr_33 : M 134 33 = winM M 0 10 := rfl
theorem fm_34 (b : Nat) : fm b = 34 ↔ b = 11 := by
  unfold fm; split <;> simp_all
theorem wM_34 (v : Int32) : winM (up2 M 134 34 v) = up2 (winM M) 0 11 v := by
  funext a b
  by_cases h : a = 0
  · subst h; simp [winM, up2, fm_34]
  · by_cases h4 : a = 4
    · subst h4; simp [winM, up2]
    · have : 148 + a ≠ 134 := by omega
      simp [winM, up2, h, h4, this]
theorem wr_34 : M 134 34 = winM M 0 11 := rfl
theorem fm_35 (b : Nat) : fm b = 35 ↔ b = 6 := by
  unfold fm; split <;> simp_all
theorem wM_35 (v : Int32) : winM (up2 M 134 35 v) = up2 (winM M) 0 6 v := by
  funext a b
  by_cases h : a = 0
  · subst h; simp [winM, up2, fm_35]
  · by_cases h4 : a = 4
    · subst h4; simp [winM, up2]
    · have : 148 + a ≠ 134 := by omega
      simp [winM, up2, h, h4, this]
theorem wr_35 : M 134 35 = winM M 0 6 := rfl
theorem fm_36 (b : Nat) : fm b = 36 ↔ b = 4 := by
  unfold fm; split <;> simp_all
theorem wM_36 (v : Int32) : winM (up2 M 134 36 v) = up2 (winM M) 0 4 v := by
  funext a b
  by_cases h : a = 0
  · subst h; simp [winM, up2, fm_36]
  · by_cases h4 : a = 4
    · subst h4; simp [winM, up2]
    · have : 148 + a ≠ 134 := by omega
      simp [winM, up2, h, h4, this]
theorem wr_36 : M 134 36 = winM M 0 4 := rfl
theorem fm_37 (b : Nat) : fm b = 37 ↔ b = 5 := by
  unfold fm; split <;> simp_all
theorem wM_37 (v : Int32) : winM (up2 M 134 37 v) = up2 (winM M) 0 5 v := by
  funext a b
  by_cases h : a = 0
  · subst h; simp [winM, up2, fm_37]
  · by_cases h4 : a = 4
    · subst h4; simp [winM, up2]
    · have : 148 + a ≠ 134 := by omega
      simp [winM, up2, h, h4, this]
theorem wr_37 : M 134 37 = winM M 0 5 := rfl
theorem fm_38 (b : Nat) : fm b = 38 ↔ b = 12 := by
  unfold fm; split <;> simp_all
theorem wM_38 (v : Int32) : winM (up2 M 134 38 v) = up2 (winM M) 0 12 v := by
  funext a b
  by_cases h : a = 0
  · subst h; simp [winM, up2, fm_38]
  · by_cases h4 : a = 4
    · subst h4; simp [winM, up2]
    · have : 148 + a ≠ 134 := by omega
      simp [winM, up2, h, h4, this]
theorem wr_38 : M 134 38 = winM M 0 12 := rfl
theorem wM_149 (k : Nat) (v : Int32) : winM (up2 M 149 k v) = up2 (winM M) 1 k v := by
  funext a b
  by_cases h : a = 0
  · subst h; simp [winM, up2]
  · by_cases h4 : a = 4
    · subst h4; simp [winM, up2]
    · have : (148 + a = 149) ↔ (a = 1) := by omega
      simp [winM, up2, h, h4, this]
theorem wr_149 (k : Nat) : M 149 k = winM M 1 k := rfl
theorem wM_150 (k : Nat) (v : Int32) : winM (up2 M 150 k v) = up2 (winM M) 2 k v := by
  funext a b
  by_cases h : a = 0
  · subst h; simp [winM, up2]
  · by_cases h4 : a = 4
    · subst h4; simp [winM, up2]
    · have : (148 + a = 150) ↔ (a = 2) := by omega
      simp [winM, up2, h, h4, this]
theorem wr_150 (k : Nat) : M 150 k = winM M 2 k := rfl
theorem wM_151 (k : Nat) (v : Int32) : winM (up2 M 151 k v) = up2 (winM M) 3 k v := by
  funext a b
  by_cases h : a = 0
  · subst h; simp [winM, up2]
  · by_cases h4 : a = 4
    · subst h4; simp [winM, up2]
    · have : (148 + a = 151) ↔ (a = 3) := by omega
      simp [winM, up2, h, h4, this]
theorem wr_151 (k : Nat) : M 151 k = winM M 3 k := rfl
theorem wM_152 (k : Nat) (v : Int32) : winM (up2 M 152 k v) = up2 (winM M) 4 k v := by
  funext a b
  by_cases h : a = 0
  · subst h; simp [winM, up2]
  · by_cases h4 : a = 4
    · subst h4; simp [winM, up2]
    · have : (148 + a = 152) ↔ (a = 4) := by omega
      simp [winM, up2, h, h4, this]
theorem wr_152 (k : Nat) : M 152 k = winM M 4 k := rfl
theorem wM_ite {c : Prop} [Decidable c] (A B : Nat → Nat → Int32) : winM (if c then A else B) = if c then winM A else winM B := by
  split <;> rfl
theorem wM_fall (how x : Int32) : winM (n_fall M how x) = m_bad (winM M) 0 how (winM M 0 12) x := by
  simp only [n_fall, m_bad, wM_30, wM_31, wM_32, wM_33, wM_34, wM_35, wM_36, wM_37, wM_38, wM_149, wM_150, wM_151, wM_152]; rfl
theorem wM_put (x v c a : Int32) : winM (n_put M x v c a) = up2 (up2 (up2 (winM M) 1 x.toNatClampNeg v) 3 x.toNatClampNeg c) 2 x.toNatClampNeg a := by
  simp only [n_put, wM_30, wM_31, wM_32, wM_33, wM_34, wM_35, wM_36, wM_37, wM_38, wM_149, wM_150, wM_151, wM_152]
theorem wM_carry (f t b : Int32) : winM (n_carry M f t b) = m_carry (winM M) 0 f t b := by
  simp only [n_carry, m_carry, wM_30, wM_31, wM_32, wM_33, wM_34, wM_35, wM_36, wM_37, wM_38, wM_149, wM_150, wM_151, wM_152]; rfl
theorem wM_stp : winM (up2 (up2 M 134 35 (M 134 35 + 1)) 134 38 (M 134 38 + 1)) = up2 (up2 (winM M) 0 6 (winM M 0 6 + 1)) 0 12 (winM M 0 12 + 1) := by
  simp only [wM_30, wM_31, wM_32, wM_33, wM_34, wM_35, wM_36, wM_37, wM_38, wM_149, wM_150, wM_151, wM_152]; rfl
end WM
theorem up2_comm (M : Nat → Nat → Int32) {i k i' k' : Nat} (v v' : Int32) (h : ¬ (i = i' ∧ k = k')) : up2 (up2 M i k v) i' k' v' = up2 (up2 M i' k' v') i k v := by
  funext a b
  simp only [up2]
  by_cases h1 : a = i' ∧ b = k'
  · rw [if_pos h1, if_neg (fun z => h ⟨z.1.symm.trans h1.1, z.2.symm.trans h1.2⟩), if_pos h1]
  · rw [if_neg h1]
    by_cases h2 : a = i ∧ b = k
    · rw [if_pos h2, if_pos h2]
    · rw [if_neg h2, if_neg h2, if_neg h1]
def nF (M M' : Nat → Nat → Int32) : Prop := ∀ a b, ¬ (a = 134 ∧ 30 ≤ b ∧ b ≤ 38) → ¬ (149 ≤ a ∧ a ≤ 152) → M' a b = M a b
theorem nF.rf (M : Nat → Nat → Int32) : nF M M := fun _ _ _ _ => rfl
theorem nF.trans {M M' M'' : Nat → Nat → Int32} (h : nF M M') (h' : nF M' M'') : nF M M'' := fun a b h1 h2 => (h' a b h1 h2).trans (h a b h1 h2)
theorem nF.u {M M' : Nat → Nat → Int32} (h : nF M M') {a b : Nat} (v : Int32) (hc : (a = 134 ∧ 30 ≤ b ∧ b ≤ 38) ∨ (149 ≤ a ∧ a ≤ 152)) : nF M (up2 M' a b v) := by
  intro x y h1 h2
  rw [← h x y h1 h2]
  simp only [up2]
  exact if_neg (fun z => by rcases hc with hc | hc; exact h1 ⟨z.1.trans hc.1, by omega, by omega⟩; exact h2 (by omega))
theorem nF.ite {M A B : Nat → Nat → Int32} {c : Prop} [Decidable c] (h1 : nF M A) (h2 : nF M B) : nF M (if c then A else B) := by
  split
  · exact h1
  · exact h2
theorem nF.fall {M M' : Nat → Nat → Int32} (h : nF M M') (how x : Int32) : nF M (n_fall M' how x) := ((((h.u _ (by omega)).u _ (by omega)).u _ (by omega)).u _ (by omega)).u _ (by omega)
theorem nF.put {M M' : Nat → Nat → Int32} (h : nF M M') (x v c a : Int32) : nF M (n_put M' x v c a) := ((h.u _ (by omega)).u _ (by omega)).u _ (by omega)
theorem nF.carry {M M' : Nat → Nat → Int32} (h : nF M M') (f t b : Int32) : nF M (n_carry M' f t b) := ((h.u _ (by omega)).u _ (by omega)).u _ (by omega)
theorem nF.makes {M M' : Nat → Nat → Int32} (h : nF M M') (k r s n a : Int32) : nF M (n_makes M' k r s n a) := by
  unfold n_makes
  exact nF.ite (nF.ite ((((h.u _ (by omega)).u _ (by omega)).u _ (by omega)).u _ (by omega)) ((((h.u _ (by omega)).u _ (by omega)).u _ (by omega)).u _ (by omega))) (nF.ite (h.put _ _ _ _) (nF.ite (h.put _ _ _ _) (nF.ite (h.put _ _ _ _) (nF.ite (h.put _ _ _ _) (h.put _ _ _ _)))))
theorem nF.goes {M M' : Nat → Nat → Int32} (h : nF M M') (k r s n : Int32) : nF M (n_goes M' k r s n) := by
  unfold n_goes
  exact nF.ite (nF.ite h (h.u _ (by omega))) (nF.ite (nF.ite (h.u _ (by omega)) h) (nF.ite (h.u _ (by omega)) (nF.ite (h.u _ (by omega)) (nF.ite ((nF.ite h (h.u _ (by omega))).u _ (by omega)) (h.u _ (by omega))))))
theorem nF.go {M M' : Nat → Nat → Int32} (h : nF M M') (k r s n : Int32) : nF M (n_go M' k r s n) := by
  unfold n_go
  have h2 := (h.u (a := 134) (b := 35) (M' 134 35 + 1) (by omega)).u (a := 134) (b := 38) (M' 134 38 + 1) (by omega)
  exact nF.ite (nF.ite (h2.goes _ _ _ _) (nF.ite (h2.carry _ _ _) (h2.carry _ _ _))) (h2.makes _ _ _ _ _)
theorem nF.step {M M' : Nat → Nat → Int32} (h : nF M M') (k r s n acts : Int32) : nF M (n_step M' k r s n acts) := by
  unfold n_step
  exact nF.ite (h.u _ (by omega)) (nF.ite (nF.ite (h.fall _ _) (h.go _ _ _ _)) (nF.ite (nF.ite (h.fall _ _) (h.go _ _ _ _)) (nF.ite (nF.ite (h.fall _ _) (nF.ite (h.go _ _ _ _) (h.fall _ _))) (h.go _ _ _ _))))
/-- all but the place that comes next is the same -/
def Eb (K L : Nat → Nat → Int32) : Prop := ∀ a b, ¬ (a = 0 ∧ b = 12) → K a b = L a b
theorem bad_eb (L : Nat → Nat → Int32) (how a x v : Int32) (h8 : ¬ a = -1) : Eb (m_bad L 0 how a x) (m_fin (m_bad (up2 L 0 12 v) 0 how a x) 0) := by
  have e8 : m_bad (up2 L 0 12 v) 0 how a x 0 8 = a := by simp [m_bad, up2]
  rw [m_fin_n (by rw [e8]; exact h8)]
  intro p q h
  have : ¬ (p = 0 ∧ q = 12) := h
  simp [m_bad, up2]
  rw [if_neg h]
theorem fin_make (L : Nat → Nat → Int32) (h8 : L 0 8 = -1) (x v c a : Int32) : m_fin (m_make (up2 L 0 12 (L 0 12 + 1)) 0 x v a c) 0 = up2 (up2 (up2 (up2 (up2 L 0 6 (L 0 6 + 1)) 0 12 (L 0 12 + 1)) 1 x.toNatClampNeg v) 3 x.toNatClampNeg c) 2 x.toNatClampNeg a := by
  rw [m_fin_p (by rw [m_make_0, up2_n2 _ _ (by decide)]; exact h8), m_make_0, up2_n2 _ _ (show 6 ≠ 12 by decide)]
  unfold m_make
  simp only [Nat.zero_add]
  rw [up2_comm _ _ _ (show ¬ ((3 : Nat) = 0 ∧ x.toNatClampNeg = 6) by omega), up2_comm _ _ _ (show ¬ ((2 : Nat) = 0 ∧ x.toNatClampNeg = 6) by omega), up2_comm _ _ _ (show ¬ ((1 : Nat) = 0 ∧ x.toNatClampNeg = 6) by omega), up2_comm L _ _ (show ¬ ((0 : Nat) = 0 ∧ 12 = 6) by omega), up2_comm _ _ _ (show ¬ ((2 : Nat) = 3 ∧ x.toNatClampNeg = x.toNatClampNeg) by omega)]
theorem fin_carry (L : Nat → Nat → Int32) (h8 : L 0 8 = -1) (f t b : Int32) : m_fin (m_carry (up2 L 0 12 (L 0 12 + 1)) 0 f t b) 0 = m_carry (up2 (up2 L 0 6 (L 0 6 + 1)) 0 12 (L 0 12 + 1)) 0 f t b := by
  rw [m_fin_p (by rw [m_carry_0, up2_n2 _ _ (by decide)]; exact h8), m_carry_0, up2_n2 _ _ (show 6 ≠ 12 by decide)]
  unfold m_carry
  simp only [Nat.zero_add]
  rw [up2_comm _ _ _ (show ¬ ((3 : Nat) = 0 ∧ t.toNatClampNeg = 6) by omega), up2_comm _ _ _ (show ¬ ((2 : Nat) = 0 ∧ t.toNatClampNeg = 6) by omega), up2_comm _ _ _ (show ¬ ((1 : Nat) = 0 ∧ t.toNatClampNeg = 6) by omega), up2_comm L _ _ (show ¬ ((0 : Nat) = 0 ∧ 12 = 6) by omega)]
  simp only [up2_n1 _ _ (show (1 : Nat) ≠ 0 by decide), up2_n1 _ _ (show (2 : Nat) ≠ 0 by decide), up2_n1 _ _ (show (3 : Nat) ≠ 0 by decide)]
theorem fin_u (L : Nat → Nat → Int32) (h8 : L 0 8 = -1) (k : Nat) (v : Int32) (h1 : k ≠ 6) (h2 : k ≠ 8) : m_fin (up2 (up2 L 0 12 (L 0 12 + 1)) 0 k v) 0 = up2 (up2 (up2 L 0 6 (L 0 6 + 1)) 0 12 (L 0 12 + 1)) 0 k v := by
  rw [m_fin_p (by rw [up2_n2 _ _ (Ne.symm h2), up2_n2 _ _ (by decide)]; exact h8), up2_n2 _ _ (Ne.symm h1), up2_n2 _ _ (show 6 ≠ 12 by decide)]
  rw [up2_comm _ _ _ (show ¬ ((0 : Nat) = 0 ∧ k = 6) by omega), up2_comm L _ _ (show ¬ ((0 : Nat) = 0 ∧ 12 = 6) by omega)]
theorem fin_0 (L : Nat → Nat → Int32) (h8 : L 0 8 = -1) : m_fin (up2 L 0 12 (L 0 12 + 1)) 0 = up2 (up2 L 0 6 (L 0 6 + 1)) 0 12 (L 0 12 + 1) := by
  rw [m_fin_p (by rw [up2_n2 _ _ (by decide)]; exact h8), up2_n2 _ _ (show 6 ≠ 12 by decide), up2_comm L _ _ (show ¬ ((0 : Nat) = 0 ∧ 12 = 6) by omega)]
