/-! HEAPS: the reference's side -/
section HI
variable {E A C : Nat → Int32}
abbrev sameC (E A C : Nat → Int32) (j i : Nat) : Prop := E j = E i ∧ A j = A i ∧ C j = C i
/-- what holds of the heaps of the first i inputs -/
def hInv (E A C : Nat → Int32) (i : Nat) (s : hT) : Prop := s.1 ≤ i ∧ (∀ h, h < s.1 → s.2.1 h < i ∧ ¬ E (s.2.1 h) = 0) ∧ (∀ k, k < i → E k = 0 → s.2.2.2 k = -1) ∧ (∀ k, k < i → ¬ E k = 0 → ∃ h, h < s.1 ∧ s.2.2.2 k = nI h ∧ sameC E A C (s.2.1 h) k) ∧ (∀ h h', h < s.1 → h' < s.1 → sameC E A C (s.2.1 h) (s.2.1 h') → h = h') ∧ ∀ h, h < s.1 → s.2.2.1 h = cntH s.2.2.2 (nI h) i
theorem cntH_up (F : Nat → Int32) (i : Nat) (v how : Int32) : cntH (va_up F i v) how i = cntH F how i := by
  have : ∀ n, n ≤ i → cntH (va_up F i v) how n = cntH F how n := by
    intro n
    induction n with
    | zero => intro _; rfl
    | succ n ih =>
      intro hn
      simp only [cntH, ih (by omega)]
      rw [show va_up F i v n = F n from by simp [va_up, show n ≠ i by omega]]
  exact this i (Nat.le_refl i)
theorem cntH_0 (F : Nat → Int32) (how : Int32) : ∀ n, (∀ k, k < n → ¬ F k = how) → cntH F how n = 0 := by
  intro n
  induction n with
  | zero => intro _; rfl
  | succ n ih => intro h; simp only [cntH, ih (fun k hk => h k (by omega)), if_neg (h n (by omega))]
theorem hInv.step {i : Nat} {s : hT} (hi : i < 30) (h : hInv E A C i s) : hInv E A C (i + 1) (hStep E A C i s) := by
  obtain ⟨c, L, Z, F⟩ := s
  obtain ⟨h0, h1, h2, h3, h4, h5⟩ := h
  dsimp only at h0 h1 h2 h3 h4 h5
  unfold hStep
  by_cases hE : E i = 0
  · rw [if_pos hE]
    refine ⟨by dsimp only; omega, fun d hd => ⟨by have := (h1 d hd).1; dsimp only; omega, (h1 d hd).2⟩, fun k hk he => ?_, fun k hk he => ?_, h4, fun d hd => ?_⟩
    · by_cases e : k = i
      · subst e; simp [va_up]
      · simp only [va_up, if_neg e]; exact h2 k (by omega) he
    · by_cases e : k = i
      · subst e; exact absurd hE he
      · simp only [va_up, if_neg e]; exact h3 k (by omega) he
    · simp only [cntH, cntH_up]
      rw [h5 d hd, if_neg (by simp only [va_up, if_pos]; exact fun z => nm1 (by have : d < c := hd; omega) z.symm)]
      rfl
  rw [if_neg hE]
  dsimp only
  rcases hf : hfd (cLike E A C L i) c with _ | d
  · dsimp only
    have hn := hfd_none hf
    refine ⟨by dsimp only; omega, fun d hd => ?_, fun k hk he => ?_, fun k hk he => ?_, fun d d' hd hd' he => ?_, fun d hd => ?_⟩
    · by_cases e : d = c
      · subst e; simp only [va_up, if_pos]; exact ⟨by omega, hE⟩
      · simp only [va_up, if_neg e]; have := h1 d (by dsimp only at hd; omega); exact ⟨by omega, this.2⟩
    · by_cases e : k = i
      · subst e; exact absurd he hE
      · simp only [va_up, if_neg e]; exact h2 k (by omega) he
    · by_cases e : k = i
      · subst e; exact ⟨c, by dsimp only; omega, by simp [va_up], by simp only [va_up, if_pos]; exact ⟨rfl, rfl, rfl⟩⟩
      · obtain ⟨d, a1, a2, a3⟩ := h3 k (by omega) he
        exact ⟨d, by dsimp only; omega, by simp only [va_up, if_neg e]; exact a2, by simp only [va_up, if_neg (show d ≠ c by omega)]; exact a3⟩
    · dsimp only at hd hd'
      simp only [va_up] at he
      by_cases e : d = c
      · by_cases e' : d' = c
        · omega
        · rw [if_pos e, if_neg e'] at he
          exact absurd ⟨he.1.symm, he.2.1.symm, he.2.2.symm⟩ (hn d' (by omega))
      · by_cases e' : d' = c
        · rw [if_neg e, if_pos e'] at he
          exact absurd he (hn d (by omega))
        · rw [if_neg e, if_neg e'] at he
          exact h4 d d' (by omega) (by omega) he
    · dsimp only at hd
      simp only [cntH, cntH_up]
      by_cases e : d = c
      · subst e
        simp only [va_up, if_pos]
        rw [cntH_0 F (nI d) i (fun k hk z => by
          by_cases he : E k = 0
          · rw [h2 k hk he] at z; exact nm1 (by omega) z.symm
          · obtain ⟨q, b1, b2, -⟩ := h3 k hk he
            rw [b2] at z
            have := (nI_eq (by omega) (by omega)).mp z
            omega)]
      · simp only [va_up, if_neg e, if_pos]
        rw [if_neg (fun z => e ((nI_eq (by omega) (by omega)).mp z).symm), h5 d (by omega)]
        rfl
  · dsimp only
    obtain ⟨hd, hp⟩ := hfd_spec hf
    refine ⟨by dsimp only; omega, fun d hd => ⟨by have := (h1 d hd).1; dsimp only; omega, (h1 d hd).2⟩, fun k hk he => ?_, fun k hk he => ?_, h4, fun e he => ?_⟩
    · by_cases e : k = i
      · subst e; exact absurd he hE
      · simp only [va_up, if_neg e]; exact h2 k (by omega) he
    · by_cases e : k = i
      · subst e; exact ⟨d, hd, by simp [va_up], hp⟩
      · simp only [va_up, if_neg e]; exact h3 k (by omega) he
    · simp only [cntH, cntH_up]
      dsimp only at he
      by_cases q : e = d
      · subst q; simp only [va_up, if_pos]; rw [h5 e he]
      · simp only [va_up, if_neg q, if_pos]
        rw [if_neg (fun z => q ((nI_eq (by omega) (by omega)).mp z).symm), h5 e he]
        rfl
theorem hInv.all : ∀ i, i ≤ 30 → hInv E A C i (hAll E A C i) := by
  intro i
  induction i with
  | zero => intro _; exact ⟨Nat.le_refl 0, fun h hh => absurd hh (Nat.not_lt_zero h), fun h hh => absurd hh (Nat.not_lt_zero h), fun h hh => absurd hh (Nat.not_lt_zero h), fun h _ hh => absurd hh (Nat.not_lt_zero h), fun h hh => absurd hh (Nat.not_lt_zero h)⟩
  | succ i ih => intro hi; exact (ih (by omega)).step (by omega)
def nIs (E A C : Nat → Int32) (M : Nat → Nat → Int32) (i : Nat) (s : hT) : Prop := M 134 50 = nI s.1 ∧ (∀ k, k < i → M 158 k = E k ∧ M 159 k = A k ∧ M 160 k = C k ∧ M 161 k = s.2.2.2 k) ∧ ∀ h, h < s.1 → M 162 h = nI (s.2.1 h)
/-- what is written of input i before its heap is sought -/
def nS (M : Nat → Nat → Int32) (i : Nat) (x y z : Int32) : Nat → Nat → Int32 := up2 (up2 (up2 (up2 M 158 i x) 159 i y) 160 i z) 161 i (-1)
theorem nS_o (M : Nat → Nat → Int32) (i : Nat) (x y z : Int32) {a b : Nat} (h : a < 158 ∨ 161 < a) : nS M i x y z a b = M a b := by
  unfold nS; rw [up2_n1 _ _ (by omega), up2_n1 _ _ (by omega), up2_n1 _ _ (by omega), up2_n1 _ _ (by omega)]
theorem nS_k (M : Nat → Nat → Int32) (i : Nat) (x y z : Int32) {a b : Nat} (h : b ≠ i) : nS M i x y z a b = M a b := by
  unfold nS; rw [up2_n2 _ _ h, up2_n2 _ _ h, up2_n2 _ _ h, up2_n2 _ _ h]
theorem nS_i (M : Nat → Nat → Int32) (i : Nat) (x y z : Int32) : nS M i x y z 158 i = x ∧ nS M i x y z 159 i = y ∧ nS M i x y z 160 i = z ∧ nS M i x y z 161 i = -1 := by
  simp [nS, up2]
variable {M : Nat → Nat → Int32} {i : Nat} {s : hT}
theorem nIs.well (h : nIs E A C M i s) (hE : E i = 0) : nIs E A C (nS M i (E i) (A i) (C i)) (i + 1) (hStep E A C i s) := by
  obtain ⟨h1, h2, h3⟩ := h
  obtain ⟨q1, q2, q3, q4⟩ := nS_i M i (E i) (A i) (C i)
  unfold hStep; rw [if_pos hE]
  refine ⟨by rw [nS_o _ _ _ _ _ (by omega)]; exact h1, fun k hk => ?_, fun d hd => by rw [nS_o _ _ _ _ _ (by omega)]; exact h3 d hd⟩
  by_cases e : k = i
  · subst e; exact ⟨q1, q2, q3, by rw [q4]; simp [va_up]⟩
  · rw [nS_k _ _ _ _ _ e, nS_k _ _ _ _ _ e, nS_k _ _ _ _ _ e, nS_k _ _ _ _ _ e]; simp only [va_up, if_neg e]; exact h2 k (by omega)
theorem nIs.found (h : nIs E A C M i s) (hE : ¬ E i = 0) {d : Nat} (hf : hfd (cLike E A C s.2.1 i) s.1 = some d) : nIs E A C (up2 (nS M i (E i) (A i) (C i)) 161 i (nI d)) (i + 1) (hStep E A C i s) := by
  obtain ⟨h1, h2, h3⟩ := h
  obtain ⟨q1, q2, q3, q4⟩ := nS_i M i (E i) (A i) (C i)
  unfold hStep; rw [if_neg hE, hf]; dsimp only
  refine ⟨by rw [up2_n1 _ _ (by decide), nS_o _ _ _ _ _ (by omega)]; exact h1, fun k hk => ?_, fun d hd => by rw [up2_n1 _ _ (by decide), nS_o _ _ _ _ _ (by omega)]; exact h3 d hd⟩
  rw [up2_n1 _ _ (by decide), up2_n1 _ _ (by decide), up2_n1 _ _ (by decide)]
  by_cases e : k = i
  · subst e; exact ⟨q1, q2, q3, by rw [up2_eq]; simp [va_up]⟩
  · rw [up2_n2 _ _ e, nS_k _ _ _ _ _ e, nS_k _ _ _ _ _ e, nS_k _ _ _ _ _ e, nS_k _ _ _ _ _ e]; simp only [va_up, if_neg e]; exact h2 k (by omega)
theorem nIs.new (h : nIs E A C M i s) (hE : ¬ E i = 0) (hf : hfd (cLike E A C s.2.1 i) s.1 = none) : nIs E A C (up2 (up2 (up2 (nS M i (E i) (A i) (C i)) 161 i (nI s.1)) 162 s.1 (nI i)) 134 50 (nI s.1 + 1)) (i + 1) (hStep E A C i s) := by
  obtain ⟨h1, h2, h3⟩ := h
  obtain ⟨q1, q2, q3, q4⟩ := nS_i M i (E i) (A i) (C i)
  unfold hStep; rw [if_neg hE, hf]; dsimp only
  refine ⟨by rw [up2_eq, nI_succ], fun k hk => ?_, fun d hd => ?_⟩
  · rw [up2_n1 _ _ (by decide), up2_n1 _ _ (by decide), up2_n1 _ _ (by decide), up2_n1 _ _ (by decide), up2_n1 _ _ (by decide), up2_n1 _ _ (by decide), up2_n1 _ _ (by decide), up2_n1 _ _ (by decide), up2_n1 _ _ (by decide), up2_n1 _ _ (by decide), up2_n1 _ _ (by decide)]
    by_cases e : k = i
    · subst e; exact ⟨q1, q2, q3, by rw [up2_eq]; simp [va_up]⟩
    · rw [up2_n2 _ _ e, nS_k _ _ _ _ _ e, nS_k _ _ _ _ _ e, nS_k _ _ _ _ _ e, nS_k _ _ _ _ _ e]; simp only [va_up, if_neg e]; exact h2 k (by omega)
  · rw [up2_n1 _ _ (by decide)]
    by_cases e : d = s.1
    · subst e; rw [up2_eq]; simp [va_up]
    · rw [up2_n2 _ _ e, up2_n1 _ _ (by decide), nS_o _ _ _ _ _ (by omega)]; simp only [va_up, if_neg e]; exact h3 d (by omega)
theorem seek_found (h : hInv E A C i s) {j : Nat} (hj : j < i) (hE : ¬ E i = 0) (hs : sameC E A C j i) : ∃ d, d < s.1 ∧ s.2.2.2 j = nI d ∧ hfd (cLike E A C s.2.1 i) s.1 = some d := by
  obtain ⟨h0, h1, h2, h3, h4, h5⟩ := h
  obtain ⟨d, a1, a2, a3⟩ := h3 j hj (by rw [hs.1]; exact hE)
  have hd : cLike E A C s.2.1 i d := ⟨a3.1.trans hs.1, a3.2.1.trans hs.2.1, a3.2.2.trans hs.2.2⟩
  refine ⟨d, a1, a2, ?_⟩
  rcases hf : hfd (cLike E A C s.2.1 i) s.1 with _ | d'
  · exact absurd hd (hfd_none hf d a1)
  · obtain ⟨b1, b2⟩ := hfd_spec hf
    rw [h4 d' d b1 a1 ⟨b2.1.trans hd.1.symm, b2.2.1.trans hd.2.1.symm, b2.2.2.trans hd.2.2.symm⟩]
theorem seek_none (h : hInv E A C i s) (hn : ∀ j, j < i → ¬ sameC E A C j i) : hfd (cLike E A C s.2.1 i) s.1 = none := by
  rcases hf : hfd (cLike E A C s.2.1 i) s.1 with _ | d
  · rfl
  · obtain ⟨b1, b2⟩ := hfd_spec hf
    exact absurd b2 (hn _ (h.2.1 d b1).1)
end HI
