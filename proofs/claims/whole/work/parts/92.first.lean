/-! THE FIRST STATE: what both constructors leave -/
def aM0 : Nat → Nat → Int32 := fun _ _ => 0
def aJ0 : Nat → Nat → Int64 := fun _ _ => 0
def aR0 : Nat → Nat → Option Nat := fun _ _ => none
def m8 (M : Nat → Nat → Int32) : Nat → Nat → Int32 := (up2 (up2 M 134 5 (-1)) 134 53 (-1))
def r8 (R : Nat → Nat → Option Nat) : Nat → Nat → Option Nat := (up2 (up2 (up2 (up2 (up2 (up2 (up2 (up2 (up2 (up2 (up2 (up2 (up2 (up2 (up2 (up2 (up2 (up2 (up2 (up2 (up2 (up2 (up2 (up2 (up2 (up2 (up2 (up2 (up2 (up2 (up2 R 134 0 (some 135)) 134 1 (some 136)) 134 11 (some 137)) 134 12 (some 138)) 134 13 (some 139)) 134 14 (some 140)) 134 15 (some 141)) 134 16 (some 142)) 134 17 (some 143)) 134 18 (some 144)) 134 19 (some 145)) 134 21 (some 146)) 134 22 (some 147)) 134 24 (some 148)) 134 25 (some 149)) 134 26 (some 150)) 134 27 (some 151)) 134 28 (some 152)) 134 39 (some 153)) 134 40 (some 154)) 134 41 (some 155)) 134 42 (some 156)) 134 43 (some 157)) 134 45 (some 158)) 134 46 (some 159)) 134 47 (some 160)) 134 48 (some 161)) 134 49 (some 162)) 134 51 (some 163)) 134 52 (some 164)) 134 59 (some 165))
def mZ0 : Nat → Nat → Int32 := m8 (m7 aM0)
def jZ0 : Nat → Nat → Int64 := j7 aJ0
def rZ0 : Nat → Nat → Option Nat := r8 (r_in (r_sh (r7a aR0) 3) 30)
def sZ0 : aSt := ([], fun _ => [], 0, fun _ => [], (0, -1), none, ([], []))
theorem fr_0 : Fr 0 aM0 aJ0 aR0 := ⟨fun _ _ _ => ⟨rfl, rfl, rfl⟩, fun _ _ _ h => nomatch h⟩
theorem okSt_Z0 : okSt sZ0 := ⟨⟨Nat.zero_le _, fun k h => absurd h (Nat.not_lt_zero k)⟩, fun _ _ => ⟨⟨Nat.zero_le _, fun k h => absurd h (Nat.not_lt_zero k)⟩, fun k h => absurd h (Nat.not_lt_zero k)⟩, by decide, fun i h => absurd h (Nat.not_lt_zero i), rfl, by decide⟩
theorem layC_Z0 : LayC rZ0 := by unfold LayC; decide +kernel
theorem layM_Z0 : LayM rZ0 := by unfold LayM; decide +kernel
theorem nam_Z0 : namC jZ0 := by unfold namC; decide +kernel
theorem sh_Z0 : ∀ k, k < 3 → rZ0 3 k = some (59 + 5 * k) ∧ mZ0 (59 + 5 * k) 4 = 0 := by decide +kernel
theorem p4_Z0 : ∀ k, k < 3 → (59 + 5 * k = 14 ∨ 59 + 5 * k = 59 ∨ 59 + 5 * k = 64 ∨ 59 + 5 * k = 69) ∧ 59 + 5 * k ≠ 14 := by decide
theorem e0_Z0 : mZ0 1 1 = 0 ∧ mZ0 0 9 = 0 ∧ mZ0 4 9 = 0 ∧ mZ0 4 10 = -1 ∧ mZ0 0 10 = 0 ∧ mZ0 43 1 = 0 ∧ mZ0 45 1 = 0 ∧ rZ0 4 8 = some 14 := by decide +kernel
theorem e1_Z0 : mZ0 134 2 = 0 ∧ mZ0 134 23 = 0 ∧ mZ0 134 4 = 0 ∧ mZ0 134 5 = -1 ∧ mZ0 134 44 = 0 ∧ mZ0 134 53 = -1 ∧ ∀ k, k < 3 → mZ0 141 k = 0 := by decide +kernel
theorem row_Z0 {M : Nat → Nat → Int32} {q : Nat} (h : M q 1 = 0) : rowIs M q [] := ⟨Nat.zero_le _, h, fun k h => absurd h (Nat.not_lt_zero k)⟩
theorem repC_Z0 : repC mZ0 jZ0 rZ0 sZ0 := by
  obtain ⟨h1, h2, h3, h4, h5, h6, h7, h8⟩ := e0_Z0
  exact ⟨layC_Z0, ⟨fun k => 59 + 5 * k, 14, fun k hk => ⟨(sh_Z0 k hk).1, (p4_Z0 k hk).1, (p4_Z0 k hk).2, Nat.zero_le _, (sh_Z0 k hk).2, fun k h => absurd h (Nat.not_lt_zero k)⟩, fun k k' _ _ e => by have e : 59 + 5 * k = 59 + 5 * k' := e; omega, h8, Or.inl rfl⟩, row_Z0 h1, h2, fun i h => absurd h (Nat.not_lt_zero i), h3, h4, nam_Z0, h5, row_Z0 h6, row_Z0 h7⟩
theorem repM_Z0 : repM mZ0 jZ0 rZ0 sZ0 := by
  obtain ⟨h1, h2, h3, h4, h5, h6, h7⟩ := e1_Z0
  exact ⟨layM_Z0, ⟨h1, fun k h => absurd h (Nat.not_lt_zero k)⟩, fun k hk => ⟨Nat.zero_le _, h7 k hk, fun k h => absurd h (Nat.not_lt_zero k)⟩, h2, fun i h => absurd h (Nat.not_lt_zero i), h3, h4, h5, Or.inl ⟨h6, rfl⟩⟩
