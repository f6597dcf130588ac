/-! THE STATE, and what of it either memory shows. (tape, shelves, number of inputs, inputs, fault, latest run, small and low) -/
abbrev aSt : Type := List Int32 × (Nat → List act4) × Nat × (Nat → List Int32) × (Int32 × Int32) × Option (Nat → Nat → Int32) × (List Int32 × List Int32)
abbrev s_T (s : aSt) : List Int32 := s.1
abbrev s_P (s : aSt) : Nat → List act4 := s.2.1
abbrev s_n (s : aSt) : Nat := s.2.2.1
abbrev s_I (s : aSt) : Nat → List Int32 := s.2.2.2.1
abbrev s_f (s : aSt) : Int32 × Int32 := s.2.2.2.2.1
abbrev s_r (s : aSt) : Option (Nat → Nat → Int32) := s.2.2.2.2.2.1
abbrev s_s (s : aSt) : List Int32 × List Int32 := s.2.2.2.2.2.2
def okSt (s : aSt) : Prop := okX (s_T s) ∧ (∀ k, k < 3 → okL2 (s_P s k)) ∧ s_n s ≤ 30 ∧ (∀ i, i < s_n s → okI (s_I s i)) ∧ (s_s s).1.length = (s_s s).2.length ∧ (s_s s).1.length ≤ 24
def isP4 (p : Nat) : Prop := p = 14 ∨ p = 59 ∨ p = 64 ∨ p = 69
theorem isP4.prog {w : gw} {R : Nat → Nat → Option Nat} {p : Nat} (h : isP4 p) (hw : w.1 = 166) (hR : LayC R) : isProg w R p := by
  rcases h with rfl | rfl | rfl | rfl
  · exact prog_14 hw hR
  · exact prog_59 hw hR
  · exact prog_64 hw hR
  · exact prog_69 hw hR
def shC (M : Nat → Nat → Int32) (R : Nat → Nat → Option Nat) (P : Nat → List act4) (π : Nat → Nat) (ip : Nat) : Prop := (∀ k, k < 3 → R 3 k = some (π k) ∧ isP4 (π k) ∧ π k ≠ ip ∧ progIs M (π k) (P k)) ∧ (∀ k k', k < 3 → k' < 3 → π k = π k' → k = k') ∧ R 4 8 = some ip ∧ isP4 ip
def runC (M : Nat → Nat → Int32) (r : Option (Nat → Nat → Int32)) : Prop := match r with
  | none => M 0 10 = 0
  | some K => M 0 10 = 1 ∧ Qk (win M 20) K
def runM (M : Nat → Nat → Int32) (r : Option (Nat → Nat → Int32)) : Prop := match r with
  | none => M 134 44 = 0
  | some K => M 134 44 = 1 ∧ lookIs M K
def repC (M : Nat → Nat → Int32) (J : Nat → Nat → Int64) (R : Nat → Nat → Option Nat) (s : aSt) : Prop := LayC R ∧ (∃ π ip, shC M R (s_P s) π ip) ∧ rowIs M 1 (s_T s) ∧ M 0 9 = nI (s_n s) ∧ (∀ i, i < s_n s → rowIs M (74 + 2 * i) (s_I s i)) ∧ M 4 9 = (s_f s).1 ∧ M 4 10 = (s_f s).2 ∧ namC J ∧ runC M (s_r s) ∧ rowIs M 43 (s_s s).1 ∧ rowIs M 45 (s_s s).2
def smM (M : Nat → Nat → Int32) (p : List Int32 × List Int32) : Prop := (M 134 53 = -1 ∧ p.1 = []) ∨ (M 134 53 = nI p.1.length ∧ ∀ x, x < p.1.length → M 163 x = p.1.getD x 0 ∧ M 164 x = p.2.getD x 0)
def repM (M : Nat → Nat → Int32) (_ : Nat → Nat → Int64) (R : Nat → Nat → Option Nat) (s : aSt) : Prop := LayM R ∧ tapM M (s_T s) ∧ (∀ k, k < 3 → progN M k (s_P s k)) ∧ M 134 23 = nI (s_n s) ∧ (∀ i, i < s_n s → inAtM M i (s_I s i)) ∧ M 134 4 = (s_f s).1 ∧ M 134 5 = (s_f s).2 ∧ runM M (s_r s) ∧ smM M (s_s s)
def hiS {α : Type} (M M' : Nat → Nat → α) : Prop := ∀ x y, 134 ≤ x → M' x y = M x y
def loS {α : Type} (M M' : Nat → Nat → α) : Prop := ∀ x y, x < 134 → M' x y = M x y
theorem hiS.rf {α : Type} (M : Nat → Nat → α) : hiS M M := fun _ _ _ => rfl
theorem loS.rf {α : Type} (M : Nat → Nat → α) : loS M M := fun _ _ _ => rfl
theorem LayC.o {R R' : Nat → Nat → Option Nat} (h : LayC R) (e : ∀ x y, x < 134 → x ≠ 3 → ¬ (x = 4 ∧ y = 8) → R' x y = R x y) : LayC R' := fun q hq => by
  have hk : ∀ q ∈ layL, q.1 < 134 ∧ q.1 ≠ 3 ∧ ¬ (q.1 = 4 ∧ q.2.1 = 8) := by decide +kernel
  obtain ⟨k1, k2, k3⟩ := hk q hq
  rw [e _ _ k1 k2 k3]; exact h q hq
theorem runC.o {M M' : Nat → Nat → Int32} {r : Option (Nat → Nat → Int32)} (h : runC M r) (e0 : M' 0 10 = M 0 10) (e : ∀ x y, 20 ≤ x → x ≤ 24 → M' x y = M x y) : runC M' r := by
  cases r with
  | none => exact e0.trans h
  | some K =>
    have hw : ∀ a b, a ≤ 4 → win M' 20 a b = win M 20 a b := fun a b ha => e (20 + a) b (by omega) (by omega)
    obtain ⟨h1, h2, h3, h4⟩ := h
    exact ⟨e0.trans h1, fun b q1 q2 => by rw [hw 0 b (by omega)]; exact h2 b q1 q2, fun a b q1 q2 q3 => by rw [hw a b (by omega)]; exact h3 a b q1 q2 q3, fun b q1 q2 => by rw [hw 4 b (by omega)]; exact h4 b q1 (by rw [hw 0 4 (by omega)] at q2; exact q2)⟩
theorem progN.o {M M' : Nat → Nat → Int32} {s : Nat} {P : List act4} (h : progN M s P) (e1 : M' 141 s = M 141 s) (e : ∀ c k, 137 ≤ c → c ≤ 140 → k < 80 → M' c (80 * s + k) = M c (80 * s + k)) : progN M' s P := ⟨h.1, e1.trans h.2.1, fun k hk => by have := h.1; rw [e 137 k (by decide) (by decide) (by omega), e 138 k (by decide) (by decide) (by omega), e 139 k (by decide) (by decide) (by omega), e 140 k (by decide) (by decide) (by omega)]; exact h.2.2 k hk⟩
theorem inAtM.o {M M' : Nat → Nat → Int32} {i : Nat} {I : List Int32} (h : inAtM M i I) (e1 : ∀ y, M' 147 y = M 147 y) (e2 : ∀ y, M' 146 y = M 146 y) : inAtM M' i I := ⟨(e1 i).trans h.1, fun k hk => (e2 _).trans (h.2 k hk)⟩
theorem lookIs.o {M M' K : Nat → Nat → Int32} (h : lookIs M K) (e : ∀ x y, 153 ≤ x → x ≤ 157 → M' x y = M x y) : lookIs M' K := by
  unfold lookIs at h ⊢
  rw [e 157 0 (by decide) (by decide), e 157 1 (by decide) (by decide), e 157 2 (by decide) (by decide), e 157 3 (by decide) (by decide), e 157 4 (by decide) (by decide), e 157 5 (by decide) (by decide), e 157 6 (by decide) (by decide)]
  refine ⟨h.1, h.2.1, h.2.2.1, h.2.2.2.1, h.2.2.2.2.1, h.2.2.2.2.2.1, h.2.2.2.2.2.2.1, fun b hb => ?_⟩
  rw [e 153 b (by decide) (by decide), e 154 b (by decide) (by decide), e 155 b (by decide) (by decide), e 156 b (by decide) (by decide)]
  exact h.2.2.2.2.2.2.2 b hb
theorem runM.o {M M' : Nat → Nat → Int32} {r : Option (Nat → Nat → Int32)} (h : runM M r) (e0 : M' 134 44 = M 134 44) (e : ∀ x y, 153 ≤ x → x ≤ 157 → M' x y = M x y) : runM M' r := by
  cases r with
  | none => exact e0.trans h
  | some K => exact ⟨e0.trans h.1, h.2.o e⟩
theorem smM.o {M M' : Nat → Nat → Int32} {p : List Int32 × List Int32} (h : smM M p) (e0 : M' 134 53 = M 134 53) (e3 : ∀ y, M' 163 y = M 163 y) (e4 : ∀ y, M' 164 y = M 164 y) : smM M' p := by
  rcases h with h | h
  · exact Or.inl ⟨e0.trans h.1, h.2⟩
  · exact Or.inr ⟨e0.trans h.1, fun x hx => by rw [e3, e4]; exact h.2 x hx⟩
theorem tapM.o {M M' : Nat → Nat → Int32} {T : List Int32} (h : tapM M T) (e0 : M' 134 2 = M 134 2) (e5 : ∀ y, M' 135 y = M 135 y) : tapM M' T := ⟨e0.trans h.1, fun k hk => by rw [e5]; exact h.2 k hk⟩
/-- cells that nobody asks for may change -/
theorem repC.f {M M' : Nat → Nat → Int32} {J J' : Nat → Nat → Int64} {R R' : Nat → Nat → Option Nat} {s : aSt} (h : repC M J R s) (e : ∀ x y, x < 134 → ¬ (25 ≤ x ∧ x ≤ 42) → ¬ (47 ≤ x ∧ x ≤ 58) → M' x y = M x y) (eJ : ∀ y, J' 9 y = J 9 y) (eR : loS R R') (hn : s_n s ≤ 30) : repC M' J' R' s := by
  obtain ⟨hR, ⟨π, ip, h1, h2, h3, h4⟩, hT, hn, hI, hf1, hf2, hnm, hrun, hS, hW⟩ := h
  have p4 : ∀ {p : Nat}, isP4 p → ∀ a b, p ≤ a → a ≤ p + 4 → M' a b = M a b := fun hp a b q1 q2 => by
    rcases hp with rfl | rfl | rfl | rfl <;> exact e a b (by omega) (by omega) (by omega)
  exact ⟨hR.o (fun x y q _ _ => eR x y q), ⟨π, ip, fun k hk => ⟨(eR 3 k (by decide)).trans (h1 k hk).1, (h1 k hk).2.1, (h1 k hk).2.2.1, (h1 k hk).2.2.2.o (p4 (h1 k hk).2.1)⟩, h2, (eR 4 8 (by decide)).trans h3, h4⟩, hT.o (fun a b q1 q2 => e a b (by omega) (by omega) (by omega)), (e 0 9 (by decide) (by decide) (by decide)).trans hn, fun i hi => (hI i hi).o (fun a b q1 q2 => e a b (by omega) (by omega) (by omega)), (e 4 9 (by decide) (by decide) (by decide)).trans hf1, (e 4 10 (by decide) (by decide) (by decide)).trans hf2, fun k hk => (eJ k).trans (hnm k hk), hrun.o (e 0 10 (by decide) (by decide) (by decide)) (fun x y q1 q2 => e x y (by omega) (by omega) (by omega)), hS.o (fun a b q1 q2 => e a b (by omega) (by omega) (by omega)), hW.o (fun a b q1 q2 => e a b (by omega) (by omega) (by omega))⟩
theorem repM.f {M M' : Nat → Nat → Int32} {J J' : Nat → Nat → Int64} {R R' : Nat → Nat → Option Nat} {s : aSt} (h : repM M J R s) (e : ∀ x y, 134 ≤ x → ¬ (x = 134 ∧ (29 ≤ y ∧ y ≤ 38 ∨ y = 50 ∨ 54 ≤ y ∧ y ≤ 58)) → ¬ (148 ≤ x ∧ x ≤ 152) → ¬ (158 ≤ x ∧ x ≤ 162) → x ≠ 165 → M' x y = M x y) (eR : hiS R R') : repM M' J' R' s := by
  obtain ⟨hR, hT, hP, hn, hI, hf1, hf2, hrun, hS⟩ := h
  exact ⟨fun q hq => (eR 134 q.1 (by decide)).trans (hR q hq), hT.o (e _ _ (by omega) (by omega) (by omega) (by omega) (by omega)) (fun y => e _ _ (by omega) (by omega) (by omega) (by omega) (by omega)), fun k hk => (hP k hk).o (e _ _ (by omega) (by omega) (by omega) (by omega) (by omega)) (fun c y q1 q2 _ => e _ _ (by omega) (by omega) (by omega) (by omega) (by omega)), (e _ _ (by omega) (by omega) (by omega) (by omega) (by omega)).trans hn, fun i hi => (hI i hi).o (fun y => e _ _ (by omega) (by omega) (by omega) (by omega) (by omega)) (fun y => e _ _ (by omega) (by omega) (by omega) (by omega) (by omega)), (e _ _ (by omega) (by omega) (by omega) (by omega) (by omega)).trans hf1, (e _ _ (by omega) (by omega) (by omega) (by omega) (by omega)).trans hf2, hrun.o (e _ _ (by omega) (by omega) (by omega) (by omega) (by omega)) (fun x y q1 q2 => e _ _ (by omega) (by omega) (by omega) (by omega) (by omega)), hS.o (e _ _ (by omega) (by omega) (by omega) (by omega) (by omega)) (fun y => e _ _ (by omega) (by omega) (by omega) (by omega) (by omega)) (fun y => e _ _ (by omega) (by omega) (by omega) (by omega) (by omega))⟩
def pstC (M : Nat → Nat → Int32) (J : Nat → Nat → Int64) (R : Nat → Nat → Option Nat) (s : aSt) (a : Int32) (v : Option Value) (u : gm) : Prop := v = some (.int a) ∧ repC u.1 u.2.1 u.2.2 s ∧ hiS M u.1 ∧ hiS J u.2.1 ∧ hiS R u.2.2
def postM (M : Nat → Nat → Int32) (J : Nat → Nat → Int64) (R : Nat → Nat → Option Nat) (s : aSt) (a : Int32) (v : Option Value) (u : gm) : Prop := v = some (.int a) ∧ repM u.1 u.2.1 u.2.2 s ∧ loS M u.1 ∧ loS J u.2.1 ∧ loS R u.2.2
theorem shC.hS {w : gw} {M : Nat → Nat → Int32} {R : Nat → Nat → Option Nat} {P : Nat → List act4} {π : Nat → Nat} {ip : Nat} (h : shC M R P π ip) (hw : w.1 = 166) (hR : LayC R) : ∀ k, k < 3 → R 3 k = some (π k) ∧ isProg w R (π k) := fun k hk => ⟨(h.1 k hk).1, (h.1 k hk).2.1.prog hw hR⟩
theorem sh_nat {a : Int32} (h : ¬ isSh a = 0) : ∃ k : Nat, k < 3 ∧ a = nI k := by
  have h0 : ¬ a < 0 := fun z => h (by simp only [isSh, if_pos z])
  have h1 : ¬ 3 ≤ a := fun z => h (by simp only [isSh, if_neg h0, if_pos z])
  obtain ⟨k, hk, rfl⟩ := nI_of h0
  exact ⟨k, by rcases Nat.lt_or_ge k 3 with g | g; exact g; exact absurd (nI_le (a := 3) g hk) h1, rfl⟩
theorem in_nat {n : Nat} {a : Int32} (h : ¬ isIn (nI n) a = 0) : ∃ k : Nat, k < n ∧ a = nI k ∧ k < 2 ^ 31 := by
  have h0 : ¬ a < 0 := fun z => h (by simp only [isIn, if_pos z])
  have h1 : ¬ nI n ≤ a := fun z => h (by simp only [isIn, if_neg h0, if_pos z])
  obtain ⟨k, hk, rfl⟩ := nI_of h0
  exact ⟨k, by rcases Nat.lt_or_ge k n with g | g; exact g; exact absurd (nI_le g hk) h1, rfl, hk⟩
/-! the answers that need no run -/
def A_fault (s : aSt) (x : Int32) : Int32 := if x = 0 then (s_f s).1 else if x = 1 then (s_f s).2 else -1
def A_about (s : aSt) (x : Int32) : Int32 := if x = 0 then nI (s_n s) else if x = 1 then nI (s_T s).length else if isSh (x - 10) = 0 then -1 else nI (s_P s (x - 10).toNatClampNeg).length
def sel4 (q : act4) (x : Int32) : Int32 := if x = 0 then q.1 else if x = 1 then q.2.1 else if x = 2 then q.2.2.1 else if x = 3 then q.2.2.2 else -1
def nn3 (x : Int32) : Int32 := if x = 3 then -1000000 else -1
def A_act (s : aSt) (a k x : Int32) : Int32 := if isSh a = 0 then nn3 x else if k < 0 then nn3 x else if k < nI (s_P s a.toNatClampNeg).length then sel4 ((s_P s a.toNatClampNeg).getD k.toNatClampNeg (0, 0, 0, 0)) x else nn3 x
def A_byteOf (s : aSt) (i k : Int32) : Int32 := if isIn (nI (s_n s)) i = 0 then -1 else inAt (s_I s i.toNatClampNeg) k
def A_drop (s : aSt) : Int32 := if s_n s = 0 then 0 else 1
def N_drop (s : aSt) : aSt := (s_T s, s_P s, s_n s - 1, s_I s, s_f s, s_r s, s_s s)
def A_ran (s : aSt) (x : Int32) : Int32 := match s_r s with
  | none => -1
  | some K => if x = 0 then K 0 6 else if x = 1 then K 0 8 else if x = 2 then K 0 9 else if x = 3 then K 0 10 else if x = 4 then K 0 11 else if x = 5 then K 0 4 else if x = 6 then K 0 5 else -1
def A_told (s : aSt) (k : Int32) : Int32 := match s_r s with
  | none => 0
  | some K => if k < 0 then 0 else if k < K 0 4 then (if k < 40 then K 4 k.toNatClampNeg else 0) else 0
def A_left (s : aSt) (k : Int32) : Int32 := match s_r s with
  | none => 0
  | some K => if isCe k = 0 then 0 else K 1 k.toNatClampNeg
def A_leftOf (s : aSt) (k x : Int32) : Int32 := if x = 0 then (match s_r s with
  | none => -1
  | some K => if isCe k = 0 then -1 else K 2 k.toNatClampNeg) else if x = 1 then (match s_r s with
  | none => 0
  | some K => if isCe k = 0 then 0 else K 3 k.toNatClampNeg) else -1
def A_smallByte (s : aSt) (k z : Int32) : Int32 := if z = 0 then inAt (s_s s).1 k else inAt (s_s s).2 k
theorem about_sh (x : Int32) : isSh (x - 10) = 0 ↔ (x < 10 ∨ 13 ≤ x) := by
  have e : (x - 10).toInt = (x.toInt - 10).bmod 4294967296 := Int32.toInt_sub x 10
  rw [Int.bmod_def] at e
  have b1 := Int32.toInt_lt x
  have b2 := Int32.le_toInt x
  have c0 : (0 : Int32).toInt = 0 := by decide
  have c3 : (3 : Int32).toInt = 3 := by decide
  have c10 : (10 : Int32).toInt = 10 := by decide
  have c13 : (13 : Int32).toInt = 13 := by decide
  unfold isSh
  constructor
  · intro h
    by_cases z0 : x - 10 < 0
    · rw [Int32.lt_iff_toInt_lt] at z0
      rw [Int32.lt_iff_toInt_lt, Int32.le_iff_toInt_le]
      omega
    · rw [if_neg z0] at h
      by_cases z3 : 3 ≤ x - 10
      · rw [Int32.le_iff_toInt_le] at z3
        rw [Int32.lt_iff_toInt_lt, Int32.le_iff_toInt_le]
        omega
      · rw [if_neg z3] at h; exact absurd h (by decide)
  · intro h
    by_cases z0 : x - 10 < 0
    · rw [if_pos z0]
    · rw [if_neg z0]
      by_cases z3 : 3 ≤ x - 10
      · rw [if_pos z3]
      · exfalso
        rw [Int32.lt_iff_toInt_lt] at z0
        rw [Int32.le_iff_toInt_le] at z3
        rw [Int32.lt_iff_toInt_lt, Int32.le_iff_toInt_le] at h
        omega

theorem C7_fault {l : Launch} {D : va_G} {w : gw} {M : Nat → Nat → Int32} {J : Nat → Nat → Int64} {R : Nat → Nat → Option Nat} {s : aSt} (hw : w.1 = 166) (ho : okSt s) (h : repC M J R s) {x : Int32} : Ct l yX7_fault wsX7_fault ({ frames := 0, cells := 0, slots := 0, locals := 0 } : Room) D w [.ref (w.2.1 0), .int x] (M, J, R) (pstC M J R s (A_fault s x)) := by
  obtain ⟨hR, ⟨π, ip, hsh⟩, hT, hn, hI, hf1, hf2, hnm, hrun, hS, hW⟩ := id h
  obtain ⟨o1, o2, o3, o4, o5, o6⟩ := id ho
  exact Cf.mono (c_X7_fault hw hR) ⟨by rw [hf1, hf2]; rfl, h, hiS.rf M, hiS.rf J, hiS.rf R⟩

theorem C8_fault {l : Launch} {D : va_G} {w : gw} {M : Nat → Nat → Int32} {J : Nat → Nat → Int64} {R : Nat → Nat → Option Nat} {s : aSt} (hw : w.1 = 166) (ho : okSt s) (h : repM M J R s) {x : Int32} : Ct l yX8_fault wsX8_fault ({ frames := 0, cells := 0, slots := 0, locals := 0 } : Room) D w [.ref (w.2.1 134), .int x] (M, J, R) (postM M J R s (A_fault s x)) := by
  obtain ⟨hR, hT, hP, hn, hI, hf1, hf2, hrun, hS⟩ := id h
  obtain ⟨o1, o2, o3, o4, o5, o6⟩ := id ho
  exact Cf.mono (c_X8_fault hw hR) ⟨by rw [hf1, hf2]; rfl, h, loS.rf M, loS.rf J, loS.rf R⟩

theorem C7_about {l : Launch} {D : va_G} {w : gw} {M : Nat → Nat → Int32} {J : Nat → Nat → Int64} {R : Nat → Nat → Option Nat} {s : aSt} (hw : w.1 = 166) (ho : okSt s) (h : repC M J R s) {x : Int32} : Ct l yX7_about wsX7_about ({ frames := 0, cells := 0, slots := 0, locals := 0 } : Room) D w [.ref (w.2.1 0), .int x] (M, J, R) (pstC M J R s (A_about s x)) := by
  obtain ⟨hR, ⟨π, ip, hsh⟩, hT, hn, hI, hf1, hf2, hnm, hrun, hS, hW⟩ := id h
  obtain ⟨o1, o2, o3, o4, o5, o6⟩ := id ho
  refine Cf.mono (c_X7_about (π := π) hw hR (hsh.hS hw hR)) ⟨?_, h, hiS.rf M, hiS.rf J, hiS.rf R⟩
  congr 2
  unfold A_about
  rw [hn, hT.2.1]
  by_cases x0 : x = 0
  · rw [if_pos x0, if_pos x0]
  rw [if_neg x0, if_neg x0]
  by_cases x1 : x = 1
  · rw [if_pos x1, if_pos x1]
  rw [if_neg x1, if_neg x1]
  by_cases z : isSh (x - 10) = 0
  · rw [if_pos z]
    rcases (about_sh x).mp z with y | y
    · rw [if_pos y]
    · by_cases y2 : x < 10
      · rw [if_pos y2]
      · rw [if_neg y2, if_pos y]
  · rw [if_neg z, if_neg (fun y => z ((about_sh x).mpr (Or.inl y))), if_neg (fun y => z ((about_sh x).mpr (Or.inr y)))]
    obtain ⟨k, hk, e⟩ := sh_nat z
    rw [e, nI_clamp (by omega)]
    exact (hsh.1 k hk).2.2.2.2.1

theorem C8_about {l : Launch} {D : va_G} {w : gw} {M : Nat → Nat → Int32} {J : Nat → Nat → Int64} {R : Nat → Nat → Option Nat} {s : aSt} (hw : w.1 = 166) (ho : okSt s) (h : repM M J R s) {x : Int32} : Ct l yX8_about wsX8_about ({ frames := 1, cells := 0, slots := 0, locals := 20 } : Room) D w [.ref (w.2.1 134), .int x] (M, J, R) (postM M J R s (A_about s x)) := by
  obtain ⟨hR, hT, hP, hn, hI, hf1, hf2, hrun, hS⟩ := id h
  obtain ⟨o1, o2, o3, o4, o5, o6⟩ := id ho
  refine Cf.mono (c_X8_about hw hR) ⟨?_, h, loS.rf M, loS.rf J, loS.rf R⟩
  congr 2
  unfold A_about
  rw [hn, hT.1]
  by_cases z : isSh (x - 10) = 0
  · rw [if_pos z, if_pos z]
  · obtain ⟨k, hk, e⟩ := sh_nat z
    rw [if_neg z, if_neg z, e, nI_clamp (by omega), (hP k hk).2.1]

theorem C7_act {l : Launch} {D : va_G} {w : gw} {M : Nat → Nat → Int32} {J : Nat → Nat → Int64} {R : Nat → Nat → Option Nat} {s : aSt} (hw : w.1 = 166) (ho : okSt s) (h : repC M J R s) {a k x : Int32} : Ct l yX7_act wsX7_act ({ frames := 1, cells := 0, slots := 0, locals := 20 } : Room) D w [.ref (w.2.1 0), .int a, .int k, .int x] (M, J, R) (pstC M J R s (A_act s a k x)) := by
  obtain ⟨hR, ⟨π, ip, hsh⟩, hT, hn, hI, hf1, hf2, hnm, hrun, hS, hW⟩ := id h
  obtain ⟨o1, o2, o3, o4, o5, o6⟩ := id ho
  have hC : ∀ k, k < 3 → ∃ n : Nat, n ≤ 80 ∧ M (π k) 4 = nI n := fun k hk => ⟨_, (hsh.1 k hk).2.2.2.1, (hsh.1 k hk).2.2.2.2.1⟩
  refine Cf.mono (c_X7_act (π := π) hw hR (hsh.hS hw hR) hC) ⟨?_, h, hiS.rf M, hiS.rf J, hiS.rf R⟩
  congr 2
  unfold A_act nn3
  by_cases z : isSh a = 0
  · rw [if_pos z, if_pos z]
  rw [if_neg z, if_neg z]
  obtain ⟨j, hj, e⟩ := sh_nat z
  have hp := (hsh.1 j hj).2.2.2
  rw [e, nI_clamp (by omega), hp.2.1]
  by_cases k0 : k < 0
  · rw [if_pos k0, if_pos k0]
  rw [if_neg k0, if_neg k0]
  by_cases k1 : k < nI (s_P s j).length
  · rw [if_pos k1, if_pos k1]
    obtain ⟨i, hi, e2⟩ := nI_of k0
    rw [e2] at k1 ⊢
    have hl := hp.1
    have hil := (nI_ltI hi (by omega)).mp k1
    rw [nI_clamp hi]
    have hq := hp.2.2 i hil
    unfold r_act sel4
    rw [← hq]
  · rw [if_neg k1, if_neg k1]

theorem C8_act {l : Launch} {D : va_G} {w : gw} {M : Nat → Nat → Int32} {J : Nat → Nat → Int64} {R : Nat → Nat → Option Nat} {s : aSt} (hw : w.1 = 166) (ho : okSt s) (h : repM M J R s) {a k x : Int32} : Ct l yX8_act wsX8_act ({ frames := 1, cells := 0, slots := 0, locals := 20 } : Room) D w [.ref (w.2.1 134), .int a, .int k, .int x] (M, J, R) (postM M J R s (A_act s a k x)) := by
  obtain ⟨hR, hT, hP, hn, hI, hf1, hf2, hrun, hS⟩ := id h
  obtain ⟨o1, o2, o3, o4, o5, o6⟩ := id ho
  have hC : ∀ k, k < 3 → ∃ n : Nat, n ≤ 80 ∧ M 141 k = nI n := fun k hk => ⟨_, (hP k hk).1, (hP k hk).2.1⟩
  refine Cf.mono (c_X8_act hw hR hC) ⟨?_, h, loS.rf M, loS.rf J, loS.rf R⟩
  congr 2
  unfold A_act nn3
  by_cases z : isSh a = 0
  · rw [if_pos z, if_pos z]
  rw [if_neg z, if_neg z]
  obtain ⟨j, hj, e⟩ := sh_nat z
  have hp := hP j hj
  rw [e, nI_clamp (by omega), hp.2.1]
  by_cases k0 : k < 0
  · rw [if_pos k0, if_pos k0]
  rw [if_neg k0, if_neg k0]
  by_cases k1 : k < nI (s_P s j).length
  · rw [if_pos k1, if_pos k1]
    obtain ⟨i, hi, e2⟩ := nI_of k0
    rw [e2] at k1 ⊢
    have hl := hp.1
    have hil := (nI_ltI hi (by omega)).mp k1
    rw [nI_clamp hi]
    have hq := hp.2.2 i hil
    unfold r_act sel4
    rw [← hq]
  · rw [if_neg k1, if_neg k1]

theorem C7_byteOf {l : Launch} {D : va_G} {w : gw} {M : Nat → Nat → Int32} {J : Nat → Nat → Int64} {R : Nat → Nat → Option Nat} {s : aSt} (hw : w.1 = 166) (ho : okSt s) (h : repC M J R s) {i k : Int32} : Ct l yX7_byteOf wsX7_byteOf ({ frames := 1, cells := 0, slots := 0, locals := 21 } : Room) D w [.ref (w.2.1 0), .int i, .int k] (M, J, R) (pstC M J R s (A_byteOf s i k)) := by
  obtain ⟨hR, ⟨π, ip, hsh⟩, hT, hn, hI, hf1, hf2, hnm, hrun, hS, hW⟩ := id h
  obtain ⟨o1, o2, o3, o4, o5, o6⟩ := id ho
  refine Cf.mono (c_X7_byteOf (n := s_n s) hw hR o3 hn) ⟨?_, h, hiS.rf M, hiS.rf J, hiS.rf R⟩
  congr 2
  unfold A_byteOf
  rw [hn]
  by_cases z : isIn (nI (s_n s)) i = 0
  · rw [if_pos z, if_pos z]
  · obtain ⟨j, hj, e, hj2⟩ := in_nat z
    rw [if_neg z, if_neg z, e, nI_clamp hj2, (hI j hj).at]

theorem C8_byteOf {l : Launch} {D : va_G} {w : gw} {M : Nat → Nat → Int32} {J : Nat → Nat → Int64} {R : Nat → Nat → Option Nat} {s : aSt} (hw : w.1 = 166) (ho : okSt s) (h : repM M J R s) {i k : Int32} : Ct l yX8_byteOf wsX8_byteOf ({ frames := 1, cells := 0, slots := 0, locals := 21 } : Room) D w [.ref (w.2.1 134), .int i, .int k] (M, J, R) (postM M J R s (A_byteOf s i k)) := by
  obtain ⟨hR, hT, hP, hn, hI, hf1, hf2, hrun, hS⟩ := id h
  obtain ⟨o1, o2, o3, o4, o5, o6⟩ := id ho
  have hz : ∀ j, j < s_n s → ∃ z : Nat, z ≤ 24 ∧ M 147 j = nI z := fun j hj => ⟨_, (o4 j hj).1, (hI j hj).1⟩
  refine Cf.mono (c_X8_byteOf (n := s_n s) hw hR o3 hn hz) ⟨?_, h, loS.rf M, loS.rf J, loS.rf R⟩
  congr 2
  unfold A_byteOf
  rw [hn]
  by_cases z : isIn (nI (s_n s)) i = 0
  · rw [if_pos z, if_pos z]
  · obtain ⟨j, hj, e, hj2⟩ := in_nat z
    rw [if_neg z, if_neg z, e, nI_clamp hj2, (hI j hj).1]
    unfold inAt
    by_cases k0 : k < 0
    · rw [if_pos k0, if_pos k0]
    rw [if_neg k0, if_neg k0]
    by_cases k1 : nI (s_I s j).length ≤ k
    · rw [if_pos k1, if_pos k1]
    rw [if_neg k1, if_neg k1]
    obtain ⟨q, hq, e2⟩ := nI_of k0
    rw [e2] at k1 ⊢
    have hl := (o4 j hj).1
    rw [nI_clamp hq]
    exact (hI j hj).2 q (by rcases Nat.lt_or_ge q (s_I s j).length with g | g; exact g; exact absurd (nI_le g hq) k1)

theorem C7_drop {l : Launch} {D : va_G} {w : gw} {M : Nat → Nat → Int32} {J : Nat → Nat → Int64} {R : Nat → Nat → Option Nat} {s : aSt} (hw : w.1 = 166) (ho : okSt s) (h : repC M J R s)  : Ct l yX7_drop wsX7_drop ({ frames := 0, cells := 0, slots := 0, locals := 0 } : Room) D w [.ref (w.2.1 0)] (M, J, R) (pstC M J R (N_drop s) (A_drop s)) := by
  obtain ⟨hR, ⟨π, ip, hsh⟩, hT, hn, hI, hf1, hf2, hnm, hrun, hS, hW⟩ := id h
  obtain ⟨o1, o2, o3, o4, o5, o6⟩ := id ho
  refine Cf.mono (c_X7_drop hw hR) ?_
  unfold A_drop N_drop
  by_cases z : s_n s = 0
  · have z1 : M 0 9 = 0 := by rw [hn, z]; rfl
    rw [if_pos z1, if_pos z1, if_pos z]
    refine ⟨rfl, ?_, hiS.rf M, hiS.rf J, hiS.rf R⟩
    have e : (s_T s, s_P s, s_n s - 1, s_I s, s_f s, s_r s, s_s s) = s := by rw [show s_n s - 1 = s_n s by omega]
    rw [e]; exact h
  · have z1 : ¬ M 0 9 = 0 := by rw [hn]; exact nI_ne0 (by omega) (by omega)
    rw [if_neg z1, if_neg z1, if_neg z]
    have hu : ∀ x y, ¬ (x = 0 ∧ y = 9) → up2 M 0 9 (M 0 9 - 1) x y = M x y := fun x y q => up2_nb q
    obtain ⟨s1, s2, s3, s4⟩ := hsh
    refine ⟨rfl, ⟨hR, ⟨π, ip, fun k hk => ⟨(s1 k hk).1, (s1 k hk).2.1, (s1 k hk).2.2.1, (s1 k hk).2.2.2.o (fun a b q1 q2 => hu a b (fun y => by rcases (s1 k hk).2.1 with q | q | q | q <;> omega))⟩, s2, s3, s4⟩, hT.o (fun a b q1 q2 => hu a b (by omega)), ?_, fun i hi => (hI i (by have hi : i < s_n s - 1 := hi; omega)).o (fun a b q1 q2 => hu a b (by omega)), (hu 4 9 (by omega)).trans hf1, (hu 4 10 (by omega)).trans hf2, hnm, hrun.o (hu 0 10 (by omega)) (fun x y q1 q2 => hu x y (by omega)), hS.o (fun a b q1 q2 => hu a b (by omega)), hW.o (fun a b q1 q2 => hu a b (by omega))⟩, fun x y q => hu x y (by omega), hiS.rf J, hiS.rf R⟩
    show up2 M 0 9 (M 0 9 - 1) 0 9 = nI (s_n s - 1)
    rw [up2_eq, hn]
    exact pk_sub (b := 1) (by omega)

theorem C8_drop {l : Launch} {D : va_G} {w : gw} {M : Nat → Nat → Int32} {J : Nat → Nat → Int64} {R : Nat → Nat → Option Nat} {s : aSt} (hw : w.1 = 166) (ho : okSt s) (h : repM M J R s)  : Ct l yX8_drop wsX8_drop ({ frames := 0, cells := 0, slots := 0, locals := 0 } : Room) D w [.ref (w.2.1 134)] (M, J, R) (postM M J R (N_drop s) (A_drop s)) := by
  obtain ⟨hR, hT, hP, hn, hI, hf1, hf2, hrun, hS⟩ := id h
  obtain ⟨o1, o2, o3, o4, o5, o6⟩ := id ho
  refine Cf.mono (c_X8_drop hw hR) ?_
  unfold A_drop N_drop
  by_cases z : s_n s = 0
  · have z1 : M 134 23 = 0 := by rw [hn, z]; rfl
    rw [if_pos z1, if_pos z1, if_pos z]
    refine ⟨rfl, ?_, loS.rf M, loS.rf J, loS.rf R⟩
    have e : (s_T s, s_P s, s_n s - 1, s_I s, s_f s, s_r s, s_s s) = s := by rw [show s_n s - 1 = s_n s by omega]
    rw [e]; exact h
  · have z1 : ¬ M 134 23 = 0 := by rw [hn]; exact nI_ne0 (by omega) (by omega)
    rw [if_neg z1, if_neg z1, if_neg z]
    have hu : ∀ x y, ¬ (x = 134 ∧ y = 23) → up2 M 134 23 (M 134 23 - 1) x y = M x y := fun x y q => up2_nb q
    refine ⟨rfl, ⟨hR, hT.o (hu 134 2 (by omega)) (fun y => hu 135 y (by omega)), fun k hk => (hP k hk).o (hu 141 k (by omega)) (fun c y q1 q2 _ => hu c (80 * k + y) (by omega)), ?_, fun i hi => (hI i (by have hi : i < s_n s - 1 := hi; omega)).o (fun y => hu 147 y (by omega)) (fun y => hu 146 y (by omega)), (hu 134 4 (by omega)).trans hf1, (hu 134 5 (by omega)).trans hf2, hrun.o (hu 134 44 (by omega)) (fun x y q1 q2 => hu x y (by omega)), hS.o (hu 134 53 (by omega)) (fun y => hu 163 y (by omega)) (fun y => hu 164 y (by omega))⟩, fun x y q => hu x y (by omega), loS.rf J, loS.rf R⟩
    show up2 M 134 23 (M 134 23 - 1) 134 23 = nI (s_n s - 1)
    rw [up2_eq, hn]
    exact pk_sub (b := 1) (by omega)

theorem C7_ran {l : Launch} {D : va_G} {w : gw} {M : Nat → Nat → Int32} {J : Nat → Nat → Int64} {R : Nat → Nat → Option Nat} {s : aSt} (hw : w.1 = 166) (ho : okSt s) (h : repC M J R s) {x : Int32} : Ct l yX7_ran wsX7_ran ({ frames := 0, cells := 0, slots := 0, locals := 0 } : Room) D w [.ref (w.2.1 0), .int x] (M, J, R) (pstC M J R s (A_ran s x)) := by
  obtain ⟨hR, ⟨π, ip, hsh⟩, hT, hn, hI, hf1, hf2, hnm, hrun, hS, hW⟩ := id h
  obtain ⟨o1, o2, o3, o4, o5, o6⟩ := id ho
  refine Cf.mono (c_X7_ran hw hR) ⟨?_, h, hiS.rf M, hiS.rf J, hiS.rf R⟩
  congr 2
  unfold A_ran r_ran
  rcases hr : s_r s with _ | K
  · rw [hr] at hrun
    have hrun : M 0 10 = 0 := hrun
    rw [if_pos hrun]
  · rw [hr] at hrun
    obtain ⟨h1, h2, -, -⟩ := hrun
    rw [if_neg (by rw [h1]; decide)]
    have e : ∀ b, 4 ≤ b → b ≤ 11 → M 20 b = K 0 b := fun b q1 q2 => h2 b q1 q2
    rw [e 6 (by decide) (by decide), e 8 (by decide) (by decide), e 9 (by decide) (by decide), e 10 (by decide) (by decide), e 11 (by decide) (by decide), e 4 (by decide) (by decide), e 5 (by decide) (by decide)]

theorem C8_ran {l : Launch} {D : va_G} {w : gw} {M : Nat → Nat → Int32} {J : Nat → Nat → Int64} {R : Nat → Nat → Option Nat} {s : aSt} (hw : w.1 = 166) (ho : okSt s) (h : repM M J R s) {x : Int32} : Ct l yX8_ran wsX8_ran ({ frames := 0, cells := 0, slots := 0, locals := 0 } : Room) D w [.ref (w.2.1 134), .int x] (M, J, R) (postM M J R s (A_ran s x)) := by
  obtain ⟨hR, hT, hP, hn, hI, hf1, hf2, hrun, hS⟩ := id h
  obtain ⟨o1, o2, o3, o4, o5, o6⟩ := id ho
  refine Cf.mono (c_X8_ran hw hR) ⟨?_, h, loS.rf M, loS.rf J, loS.rf R⟩
  congr 2
  unfold A_ran
  rcases hr : s_r s with _ | K
  · rw [hr] at hrun
    have hrun : M 134 44 = 0 := hrun
    rw [if_pos hrun]
  · rw [hr] at hrun
    obtain ⟨h1, h2⟩ := hrun
    rw [if_neg (by rw [h1]; decide)]
    obtain ⟨a0, a1, a2, a3, a4, a5, a6, -⟩ := h2
    dsimp only
    by_cases x0 : x < 0
    · rw [if_pos x0, if_neg (fun z => by rw [z] at x0; exact absurd x0 (by decide)), if_neg (fun z => by rw [z] at x0; exact absurd x0 (by decide)), if_neg (fun z => by rw [z] at x0; exact absurd x0 (by decide)), if_neg (fun z => by rw [z] at x0; exact absurd x0 (by decide)), if_neg (fun z => by rw [z] at x0; exact absurd x0 (by decide)), if_neg (fun z => by rw [z] at x0; exact absurd x0 (by decide)), if_neg (fun z => by rw [z] at x0; exact absurd x0 (by decide))]
    rw [if_neg x0]
    by_cases x6 : x ≤ 6
    · rw [if_pos x6]
      obtain ⟨j, hj, rfl⟩ := nI_of x0
      have hj6 := (nI_leI (b := 6) hj (by decide)).mp x6
      rw [nI_clamp hj]
      obtain h | h | h | h | h | h | h : j = 0 ∨ j = 1 ∨ j = 2 ∨ j = 3 ∨ j = 4 ∨ j = 5 ∨ j = 6 := by omega
      · subst h; rw [a0]; rfl
      · subst h; rw [a1]; rfl
      · subst h; rw [a2]; rfl
      · subst h; rw [a3]; rfl
      · subst h; rw [a4]; rfl
      · subst h; rw [a5]; rfl
      · subst h; rw [a6]; rfl
    · rw [if_neg x6, if_neg (fun z => by rw [z] at x6; exact x6 (by decide)), if_neg (fun z => by rw [z] at x6; exact x6 (by decide)), if_neg (fun z => by rw [z] at x6; exact x6 (by decide)), if_neg (fun z => by rw [z] at x6; exact x6 (by decide)), if_neg (fun z => by rw [z] at x6; exact x6 (by decide)), if_neg (fun z => by rw [z] at x6; exact x6 (by decide)), if_neg (fun z => by rw [z] at x6; exact x6 (by decide))]

theorem C7_told {l : Launch} {D : va_G} {w : gw} {M : Nat → Nat → Int32} {J : Nat → Nat → Int64} {R : Nat → Nat → Option Nat} {s : aSt} (hw : w.1 = 166) (ho : okSt s) (h : repC M J R s) {k : Int32} : Ct l yX7_told wsX7_told ({ frames := 1, cells := 0, slots := 0, locals := 21 } : Room) D w [.ref (w.2.1 0), .int k] (M, J, R) (pstC M J R s (A_told s k)) := by
  obtain ⟨hR, ⟨π, ip, hsh⟩, hT, hn, hI, hf1, hf2, hnm, hrun, hS, hW⟩ := id h
  obtain ⟨o1, o2, o3, o4, o5, o6⟩ := id ho
  refine Cf.mono (c_X7_told hw hR) ⟨?_, h, hiS.rf M, hiS.rf J, hiS.rf R⟩
  congr 2
  unfold A_told
  rcases hr : s_r s with _ | K
  · rw [hr] at hrun
    have hrun : M 0 10 = 0 := hrun
    rw [if_pos hrun]
  · rw [hr] at hrun
    obtain ⟨h1, h2, -, h4⟩ := hrun
    rw [if_neg (by rw [h1]; decide)]
    have e4 : M 20 4 = K 0 4 := h2 4 (by decide) (by decide)
    dsimp only
    by_cases k0 : k < 0
    · rw [if_pos k0, if_pos k0]
    rw [if_neg k0, if_neg k0, e4]
    obtain ⟨j, hj, rfl⟩ := nI_of k0
    by_cases q : (40 : Int32) < K 0 4
    · rw [if_pos q]
      by_cases q2 : nI j < 40
      · rw [if_pos q2, if_pos (Int32.lt_trans q2 q), if_pos q2, nI_clamp hj]
        exact h4 j ((nI_ltI (b := 40) hj (by decide)).mp q2) (show nI j < M 20 4 by rw [e4]; exact Int32.lt_trans q2 q)
      · rw [if_neg q2]
        split <;> rfl
    · rw [if_neg q]
      by_cases q2 : nI j < K 0 4
      · have q3 : nI j < 40 := Int32.lt_of_lt_of_le q2 (le_of_nlt q)
        rw [if_pos q2, if_pos q2, if_pos q3, nI_clamp hj]
        exact h4 j ((nI_ltI (b := 40) hj (by decide)).mp q3) (show nI j < M 20 4 by rw [e4]; exact q2)
      · rw [if_neg q2, if_neg q2]

theorem C8_told {l : Launch} {D : va_G} {w : gw} {M : Nat → Nat → Int32} {J : Nat → Nat → Int64} {R : Nat → Nat → Option Nat} {s : aSt} (hw : w.1 = 166) (ho : okSt s) (h : repM M J R s) {k : Int32} : Ct l yX8_told wsX8_told ({ frames := 0, cells := 0, slots := 0, locals := 0 } : Room) D w [.ref (w.2.1 134), .int k] (M, J, R) (postM M J R s (A_told s k)) := by
  obtain ⟨hR, hT, hP, hn, hI, hf1, hf2, hrun, hS⟩ := id h
  obtain ⟨o1, o2, o3, o4, o5, o6⟩ := id ho
  refine Cf.mono (c_X8_told hw hR) ⟨?_, h, loS.rf M, loS.rf J, loS.rf R⟩
  congr 2
  unfold A_told
  rcases hr : s_r s with _ | K
  · rw [hr] at hrun
    have hrun : M 134 44 = 0 := hrun
    rw [if_pos hrun]
  · rw [hr] at hrun
    obtain ⟨h1, h2⟩ := hrun
    rw [if_neg (by rw [h1]; decide)]
    obtain ⟨-, -, -, -, -, a5, -, a7⟩ := h2
    dsimp only
    by_cases k0 : k < 0
    · rw [if_pos k0, if_pos k0]
    rw [if_neg k0, if_neg k0, a5]
    obtain ⟨j, hj, rfl⟩ := nI_of k0
    by_cases q : K 0 4 ≤ nI j
    · rw [if_pos q, if_neg (fun z => absurd (Int32.lt_of_lt_of_le z q) (Int32.lt_irrefl))]
    · rw [if_neg q, if_pos (lt_of_nle q)]
      by_cases q3 : nI j < 40
      · rw [if_pos q3, if_pos q3, nI_clamp hj]
        exact (a7 j ((nI_ltI (b := 40) hj (by decide)).mp q3)).2.2.2 (lt_of_nle q)
      · rw [if_neg q3, if_neg q3]

theorem ce_nat {k : Int32} (h : ¬ isCe k = 0) : ∃ j : Nat, j < 40 ∧ k = nI j ∧ j < 2 ^ 31 := by
  have h0 : ¬ k < 0 := fun z => h (by simp only [isCe, if_pos z])
  have h1 : ¬ 40 ≤ k := fun z => h (by simp only [isCe, if_neg h0, if_pos z])
  obtain ⟨j, hj, rfl⟩ := nI_of h0
  exact ⟨j, by rcases Nat.lt_or_ge j 40 with g | g; exact g; exact absurd (nI_le (a := 40) g hj) h1, rfl, hj⟩
theorem ce_ref {k : Int32} {a b : Int32} : (if k < 0 then a else if k < 40 then b else a) = if isCe k = 0 then a else b := by
  unfold isCe
  by_cases h0 : k < 0
  · rw [if_pos h0, if_pos h0]; rfl
  · rw [if_neg h0, if_neg h0]
    by_cases h1 : k < 40
    · rw [if_pos h1, if_neg (show ¬ (40 : Int32) ≤ k from fun z => absurd (Int32.lt_of_lt_of_le h1 z) (Int32.lt_irrefl))]; rfl
    · rw [if_neg h1, if_pos (le_of_nlt h1)]; rfl
theorem ce_ref2 {k : Int32} {a b : Int32} : (if k < 0 then a else if 40 ≤ k then a else b) = if isCe k = 0 then a else b := by
  unfold isCe
  by_cases h0 : k < 0
  · rw [if_pos h0, if_pos h0]; rfl
  · rw [if_neg h0, if_neg h0]
    by_cases h1 : 40 ≤ k
    · rw [if_pos h1, if_pos h1]; rfl
    · rw [if_neg h1, if_neg h1]; rfl

theorem C7_left {l : Launch} {D : va_G} {w : gw} {M : Nat → Nat → Int32} {J : Nat → Nat → Int64} {R : Nat → Nat → Option Nat} {s : aSt} (hw : w.1 = 166) (ho : okSt s) (h : repC M J R s) {k : Int32} : Ct l yX7_left wsX7_left ({ frames := 1, cells := 0, slots := 0, locals := 20 } : Room) D w [.ref (w.2.1 0), .int k] (M, J, R) (pstC M J R s (A_left s k)) := by
  obtain ⟨hR, ⟨π, ip, hsh⟩, hT, hn, hI, hf1, hf2, hnm, hrun, hS, hW⟩ := id h
  obtain ⟨o1, o2, o3, o4, o5, o6⟩ := id ho
  refine Cf.mono (c_X7_left hw hR) ⟨?_, h, hiS.rf M, hiS.rf J, hiS.rf R⟩
  congr 2
  unfold A_left
  rcases hr : s_r s with _ | K
  · rw [hr] at hrun
    have hrun : M 0 10 = 0 := hrun
    rw [if_pos hrun]
  · rw [hr] at hrun
    obtain ⟨h1, h2, h3, h4⟩ := hrun
    rw [if_neg (by rw [h1]; decide)]
    dsimp only
    by_cases c : isCe k = 0
    · rw [if_pos c, if_pos c]
    · obtain ⟨j, hj, rfl, hj2⟩ := ce_nat c
      rw [if_neg c, if_neg c, nI_clamp hj2]
      exact h3 1 j (by decide) (by decide) hj

theorem C8_left {l : Launch} {D : va_G} {w : gw} {M : Nat → Nat → Int32} {J : Nat → Nat → Int64} {R : Nat → Nat → Option Nat} {s : aSt} (hw : w.1 = 166) (ho : okSt s) (h : repM M J R s) {k : Int32} : Ct l yX8_left wsX8_left ({ frames := 0, cells := 0, slots := 0, locals := 0 } : Room) D w [.ref (w.2.1 134), .int k] (M, J, R) (postM M J R s (A_left s k)) := by
  obtain ⟨hR, hT, hP, hn, hI, hf1, hf2, hrun, hS⟩ := id h
  obtain ⟨o1, o2, o3, o4, o5, o6⟩ := id ho
  refine Cf.mono (c_X8_left hw hR) ⟨?_, h, loS.rf M, loS.rf J, loS.rf R⟩
  congr 2
  unfold A_left
  rcases hr : s_r s with _ | K
  · rw [hr] at hrun
    have hrun : M 134 44 = 0 := hrun
    rw [if_pos hrun]
  · rw [hr] at hrun
    obtain ⟨h1, h2⟩ := hrun
    rw [if_neg (by rw [h1]; decide), ce_ref]
    dsimp only
    by_cases c : isCe k = 0
    · rw [if_pos c, if_pos c]
    · obtain ⟨j, hj, rfl, hj2⟩ := ce_nat c
      rw [if_neg c, if_neg c, nI_clamp hj2]
      exact (h2.2.2.2.2.2.2.2 j hj).1

theorem C7_leftOf {l : Launch} {D : va_G} {w : gw} {M : Nat → Nat → Int32} {J : Nat → Nat → Int64} {R : Nat → Nat → Option Nat} {s : aSt} (hw : w.1 = 166) (ho : okSt s) (h : repC M J R s) {k x : Int32} : Ct l yX7_leftOf wsX7_leftOf ({ frames := 1, cells := 0, slots := 0, locals := 20 } : Room) D w [.ref (w.2.1 0), .int k, .int x] (M, J, R) (pstC M J R s (A_leftOf s k x)) := by
  obtain ⟨hR, ⟨π, ip, hsh⟩, hT, hn, hI, hf1, hf2, hnm, hrun, hS, hW⟩ := id h
  obtain ⟨o1, o2, o3, o4, o5, o6⟩ := id ho
  refine Cf.mono (c_X7_leftOf hw hR) ⟨?_, h, hiS.rf M, hiS.rf J, hiS.rf R⟩
  congr 2
  unfold A_leftOf
  rcases hr : s_r s with _ | K
  · rw [hr] at hrun
    have hrun : M 0 10 = 0 := hrun
    rw [if_pos hrun, if_pos hrun]
  · rw [hr] at hrun
    obtain ⟨h1, h2, h3, h4⟩ := hrun
    have h10 : ¬ M 0 10 = 0 := by rw [h1]; decide
    rw [if_neg h10, if_neg h10]
    dsimp only
    by_cases c : isCe k = 0
    · rw [if_pos c, if_pos c, if_pos c, if_pos c]
    · obtain ⟨j, hj, rfl, hj2⟩ := ce_nat c
      rw [if_neg c, if_neg c, if_neg c, if_neg c, nI_clamp hj2, show M 22 j = K 2 j from h3 2 j (by decide) (by decide) hj, show M 23 j = K 3 j from h3 3 j (by decide) (by decide) hj]

theorem C8_leftOf {l : Launch} {D : va_G} {w : gw} {M : Nat → Nat → Int32} {J : Nat → Nat → Int64} {R : Nat → Nat → Option Nat} {s : aSt} (hw : w.1 = 166) (ho : okSt s) (h : repM M J R s) {k x : Int32} : Ct l yX8_leftOf wsX8_leftOf ({ frames := 0, cells := 0, slots := 0, locals := 0 } : Room) D w [.ref (w.2.1 134), .int k, .int x] (M, J, R) (postM M J R s (A_leftOf s k x)) := by
  obtain ⟨hR, hT, hP, hn, hI, hf1, hf2, hrun, hS⟩ := id h
  obtain ⟨o1, o2, o3, o4, o5, o6⟩ := id ho
  refine Cf.mono (c_X8_leftOf hw hR) ⟨?_, h, loS.rf M, loS.rf J, loS.rf R⟩
  congr 2
  unfold A_leftOf
  rcases hr : s_r s with _ | K
  · rw [hr] at hrun
    have hrun : M 134 44 = 0 := hrun
    rw [if_pos hrun, if_pos hrun]
  · rw [hr] at hrun
    obtain ⟨h1, h2⟩ := hrun
    have h10 : ¬ M 134 44 = 0 := by rw [h1]; decide
    rw [if_neg h10, if_neg h10, ce_ref2, ce_ref2]
    dsimp only
    by_cases c : isCe k = 0
    · rw [if_pos c, if_pos c, if_pos c, if_pos c]
    · obtain ⟨j, hj, rfl, hj2⟩ := ce_nat c
      rw [if_neg c, if_neg c, if_neg c, if_neg c, nI_clamp hj2, (h2.2.2.2.2.2.2.2 j hj).2.1, (h2.2.2.2.2.2.2.2 j hj).2.2.1]

theorem C7_smallByte {l : Launch} {D : va_G} {w : gw} {M : Nat → Nat → Int32} {J : Nat → Nat → Int64} {R : Nat → Nat → Option Nat} {s : aSt} (hw : w.1 = 166) (ho : okSt s) (h : repC M J R s) {k z : Int32} : Ct l yX7_smallByte wsX7_smallByte ({ frames := 1, cells := 0, slots := 0, locals := 21 } : Room) D w [.ref (w.2.1 0), .int k, .int z] (M, J, R) (pstC M J R s (A_smallByte s k z)) := by
  obtain ⟨hR, ⟨π, ip, hsh⟩, hT, hn, hI, hf1, hf2, hnm, hrun, hS, hW⟩ := id h
  obtain ⟨o1, o2, o3, o4, o5, o6⟩ := id ho
  refine Cf.mono (c_X7_smallByte hw hR) ⟨?_, h, hiS.rf M, hiS.rf J, hiS.rf R⟩
  congr 2
  unfold A_smallByte
  rw [hS.at, hW.at]

theorem C8_smallByte {l : Launch} {D : va_G} {w : gw} {M : Nat → Nat → Int32} {J : Nat → Nat → Int64} {R : Nat → Nat → Option Nat} {s : aSt} (hw : w.1 = 166) (ho : okSt s) (h : repM M J R s) {k z : Int32} : Ct l yX8_smallByte wsX8_smallByte ({ frames := 0, cells := 0, slots := 0, locals := 0 } : Room) D w [.ref (w.2.1 134), .int k, .int z] (M, J, R) (postM M J R s (A_smallByte s k z)) := by
  obtain ⟨hR, hT, hP, hn, hI, hf1, hf2, hrun, hS⟩ := id h
  obtain ⟨o1, o2, o3, o4, o5, o6⟩ := id ho
  have h24 : ¬ 24 < M 134 53 := by
    rcases hS with ⟨q, -⟩ | ⟨q, -⟩
    · rw [q]; decide
    · rw [q]; exact fun z => absurd ((nI_ltI (a := 24) (by decide) (by omega)).mp z) (by omega)
  refine Cf.mono (c_X8_smallByte hw hR h24) ⟨?_, h, loS.rf M, loS.rf J, loS.rf R⟩
  congr 2
  unfold A_smallByte inAt
  by_cases k0 : k < 0
  · rw [if_pos k0, if_pos k0, if_pos k0]; split <;> rfl
  rw [if_neg k0, if_neg k0, if_neg k0]
  rcases hS with ⟨q, e⟩ | ⟨q, e⟩
  · have l1 : (s_s s).1.length = 0 := by rw [e]; rfl
    rw [q, ← o5, l1, if_neg (fun y => absurd (Int32.lt_trans y (show (-1 : Int32) < 0 by decide)) k0), if_pos (show nI 0 ≤ k from le_of_nlt k0), if_pos (show nI 0 ≤ k from le_of_nlt k0)]
    split <;> rfl
  · rw [q, ← o5]
    obtain ⟨j, hj, rfl⟩ := nI_of k0
    by_cases c : nI j < nI (s_s s).1.length
    · have hjl := (nI_ltI hj (by omega)).mp c
      rw [if_pos c, if_neg (nI_ge hjl (by omega)), if_neg (nI_ge hjl (by omega)), nI_clamp hj, (e j hjl).1, (e j hjl).2]
    · rw [if_neg c, if_pos (le_of_nlt c), if_pos (le_of_nlt c)]
      split <;> rfl
