/-! RUNS as a function of a program (a list of acts) and an INPUT (a list of bytes) -/
abbrev act4 : Type := Int32 × Int32 × Int32 × Int32
def inAt (I : List Int32) (k : Int32) : Int32 := if k < 0 then -1 else if nI I.length ≤ k then -1 else I.getD k.toNatClampNeg 0
def m_rd (M : Nat → Nat → Int32) (i : Nat) (r a b : Int32) : Nat → Nat → Int32 := if b = -1 then m_make M i r (-1) a 0 else up2 (m_make M i r b a (1 <<< (M i 5 &&& 31))) i 5 (M i 5 + 1)
def k_sw (K : Nat → Nat → Int32) (x : act4) (a : Int32) (I : List Int32) (cnt : Int32) : Nat → Nat → Int32 := if x.1 = 0 then m_rd K 0 x.2.1 a (inAt I (K 0 5)) else if x.1 = 1 then m_make K 0 x.2.1 x.2.2.2 a 0 else if x.1 = 2 then m_carry K 0 x.2.2.1 x.2.1 0 else if x.1 = 3 then m_make K 0 x.2.1 (K 1 x.2.1.toNatClampNeg + K 1 x.2.2.1.toNatClampNeg) a (K 3 x.2.1.toNatClampNeg ||| K 3 x.2.2.1.toNatClampNeg) else if x.1 = 4 then m_make K 0 x.2.1 (K 1 x.2.1.toNatClampNeg - K 1 x.2.2.1.toNatClampNeg) a (K 3 x.2.1.toNatClampNeg ||| K 3 x.2.2.1.toNatClampNeg) else if x.1 = 5 then m_make K 0 x.2.1 (K 1 x.2.1.toNatClampNeg * K 1 x.2.2.1.toNatClampNeg) a (K 3 x.2.1.toNatClampNeg ||| K 3 x.2.2.1.toNatClampNeg) else if x.1 = 6 then m_load K 0 x.2.1 x.2.2.1 a else if x.1 = 7 then m_store K 0 x.2.1 x.2.2.1 a else if x.1 = 8 then m_goIf K 0 (if K 1 x.2.2.1.toNatClampNeg ≤ K 1 x.2.1.toNatClampNeg then 0 else 1) x.2.2.2 else if x.1 = 9 then m_goIf K 0 (if K 1 x.2.1.toNatClampNeg = K 1 x.2.2.1.toNatClampNeg then 1 else 0) x.2.2.2 else if x.1 = 10 then up2 K 0 12 x.2.2.2 else if x.1 = 11 then m_jump K 0 x.2.1 a cnt else if x.1 = 12 then m_tell K 0 (K 1 x.2.1.toNatClampNeg) else up2 K 0 7 0
def k_one (P : List act4) (I : List Int32) (K : Nat → Nat → Int32) : Nat → Nat → Int32 := if K 0 12 < 0 then up2 K 0 7 0 else if K 0 12 < nI P.length then (if K 0 6 < 1000 then m_fin (k_sw (up2 K 0 12 (K 0 12 + 1)) (P.getD (K 0 12).toNatClampNeg (0, 0, 0, 0)) (K 0 12) I (nI P.length)) 0 else up2 K 0 7 4) else up2 K 0 7 0
def k_it (P : List act4) (I : List Int32) : Nat → (Nat → Nat → Int32) → Nat → Nat → Int32
  | 0, K => K
  | n + 1, K => if K 0 7 = -1 then k_it P I n (k_one P I K) else K
def k_0 : Nat → Nat → Int32 := fun a b => if a = 2 then -1 else if a = 0 ∧ (b = 7 ∨ b = 8 ∨ b = 10) then -1 else 0
/-- THE RUN: 0: fields as a machine has them, 1 values, 2 makers, 3 bytes, 4 told -/
def RUN (P : List act4) (I : List Int32) : Nat → Nat → Int32 := k_it P I 1001 k_0
def win (M : Nat → Nat → Int32) (i : Nat) : Nat → Nat → Int32 := fun a b => M (i + a) b
section WIN
variable {M : Nat → Nat → Int32} {i : Nat}
theorem win_u0 (k : Nat) (v : Int32) : win (up2 M i k v) i = up2 (win M i) 0 k v := by
  funext a b; simp [win, up2]
theorem win_u (c k : Nat) (v : Int32) : win (up2 M (i + c) k v) i = up2 (win M i) c k v := by
  funext a b; simp [win, up2]
theorem win_at (a b : Nat) : win M i a b = M (i + a) b := rfl
theorem win_at0 (b : Nat) : win M i 0 b = M i b := rfl
theorem win_make (x v a b : Int32) : win (m_make M i x v a b) i = m_make (win M i) 0 x v a b := by
  simp only [m_make, win_u]
theorem win_carry (x v a : Int32) : win (m_carry M i x v a) i = m_carry (win M i) 0 x v a := by
  simp only [m_carry, win_u, win_at, Nat.zero_add]
theorem win_bad (x v a : Int32) : win (m_bad M i x v a) i = m_bad (win M i) 0 x v a := by
  simp only [m_bad, win_u0, win_at, Nat.zero_add]
theorem win_ite {c : Prop} [Decidable c] (A B : Nat → Nat → Int32) : win (if c then A else B) i = if c then win A i else win B i := by
  split <;> rfl
theorem win_tell (v : Int32) : win (m_tell M i v) i = m_tell (win M i) 0 v := by
  simp only [m_tell, win_u0, win_ite, win_u, win_at0, Nat.zero_add]
theorem win_goIf (z a : Int32) : win (m_goIf M i z a) i = m_goIf (win M i) 0 z a := by
  simp only [m_goIf, win_u0, win_ite]
theorem win_jump (x a n : Int32) : win (m_jump M i x a n) i = m_jump (win M i) 0 x a n := by
  simp only [m_jump, win_u0, win_ite, win_bad, win_at, Nat.zero_add]
theorem win_load (r s a : Int32) : win (m_load M i r s a) i = m_load (win M i) 0 r s a := by
  simp only [m_load, win_ite, win_bad, win_carry, win_at, Nat.zero_add]
theorem win_store (r s a : Int32) : win (m_store M i r s a) i = m_store (win M i) 0 r s a := by
  simp only [m_store, win_ite, win_bad, win_carry, win_at, Nat.zero_add]
theorem win_rd (r a b : Int32) : win (m_rd M i r a b) i = m_rd (win M i) 0 r a b := by
  simp only [m_rd, win_ite, win_u0, win_make, win_at0]
theorem win_fin : win (m_fin M i) i = m_fin (win M i) 0 := by
  by_cases e : M i 8 = -1
  · rw [m_fin_p e, win_u0, m_fin_p (M := win M i) (i := 0) e]; rfl
  · rw [m_fin_n e, m_fin_n (M := win M i) (i := 0) e]
theorem win_sw {k r s n a cnt : Int32} {q : Nat} {I : List Int32} (hb : b_at M q (M i 5) = inAt I (M i 5)) : win (m_sw M i k r s n a q cnt) i = k_sw (win M i) (k, r, s, n) a I cnt := by
  unfold m_sw k_sw
  dsimp only
  by_cases e0 : k = 0
  · rw [if_pos e0, if_pos e0]; exact (by show win (m_rd M i r a (b_at M q (M i 5))) i = _; rw [hb, win_rd]; rfl)
  rw [if_neg e0, if_neg e0]
  by_cases e1 : k = 1
  · rw [if_pos e1, if_pos e1]; exact (win_make _ _ _ _)
  rw [if_neg e1, if_neg e1]
  by_cases e2 : k = 2
  · rw [if_pos e2, if_pos e2]; exact (win_carry _ _ _)
  rw [if_neg e2, if_neg e2]
  by_cases e3 : k = 3
  · rw [if_pos e3, if_pos e3]; exact (win_make _ _ _ _)
  rw [if_neg e3, if_neg e3]
  by_cases e4 : k = 4
  · rw [if_pos e4, if_pos e4]; exact (win_make _ _ _ _)
  rw [if_neg e4, if_neg e4]
  by_cases e5 : k = 5
  · rw [if_pos e5, if_pos e5]; exact (win_make _ _ _ _)
  rw [if_neg e5, if_neg e5]
  by_cases e6 : k = 6
  · rw [if_pos e6, if_pos e6]; exact (win_load _ _ _)
  rw [if_neg e6, if_neg e6]
  by_cases e7 : k = 7
  · rw [if_pos e7, if_pos e7]; exact (win_store _ _ _)
  rw [if_neg e7, if_neg e7]
  by_cases e8 : k = 8
  · rw [if_pos e8, if_pos e8]; exact (win_goIf _ _)
  rw [if_neg e8, if_neg e8]
  by_cases e9 : k = 9
  · rw [if_pos e9, if_pos e9]; exact (win_goIf _ _)
  rw [if_neg e9, if_neg e9]
  by_cases e10 : k = 10
  · rw [if_pos e10, if_pos e10]; exact (win_u0 _ _)
  rw [if_neg e10, if_neg e10]
  by_cases e11 : k = 11
  · rw [if_pos e11, if_pos e11]; exact (win_jump _ _ _)
  rw [if_neg e11, if_neg e11]
  by_cases e12 : k = 12
  · rw [if_pos e12, if_pos e12]; exact (win_tell _)
  rw [if_neg e12, if_neg e12]
  exact win_u0 _ _
end WIN
def progIs (M : Nat → Nat → Int32) (p : Nat) (P : List act4) : Prop := P.length ≤ 80 ∧ M p 4 = nI P.length ∧ ∀ k, k < P.length → (M (p + 1) k, M (p + 2) k, M (p + 3) k, M (p + 4) k) = P.getD k (0, 0, 0, 0)
def rowIs (M : Nat → Nat → Int32) (q : Nat) (I : List Int32) : Prop := I.length ≤ ln (q + 1) ∧ M q 1 = nI I.length ∧ ∀ k, k < I.length → M (q + 1) k = I.getD k 0
theorem rowIs.at {M : Nat → Nat → Int32} {q : Nat} {I : List Int32} (h : rowIs M q I) (k : Int32) : b_at M q k = inAt I k := by
  obtain ⟨h1, h2, h3⟩ := h
  have hl := ln_lt (q + 1)
  unfold b_at inAt
  by_cases c0 : k < 0
  · rw [if_pos c0, if_pos c0]
  rw [if_neg c0, if_neg c0, h2]
  by_cases c1 : nI I.length ≤ k
  · rw [if_pos c1, if_pos c1]
  rw [if_neg c1, if_neg c1]
  obtain ⟨j, hj, rfl⟩ := nI_of c0
  have hj2 : j < I.length := by
    rcases Nat.lt_or_ge j I.length with e | e
    · exact e
    · exact absurd (nI_le e hj) c1
  rw [if_neg (nI_ge (by omega) hl), nI_clamp hj, h3 j hj2]
theorem win_one {M : Nat → Nat → Int32} {i p q : Nat} {P : List act4} {I : List Int32} (hP : progIs M p P) (hI : rowIs M q I) (hp : p + 4 < i ∨ i + 4 < p) (hq : q + 1 < i ∨ i + 4 < q) : win (m_one M i p q) i = k_one P I (win M i) := by
  obtain ⟨p0, p1, p2⟩ := hP
  unfold m_one k_one
  rw [win_at0, win_at0, p1]
  by_cases c0 : M i 12 < 0
  · rw [if_pos c0, if_pos c0, win_u0]
  rw [if_neg c0, if_neg c0]
  by_cases c1 : M i 12 < nI P.length
  · rw [if_pos c1, if_pos c1]
    by_cases c2 : M i 6 < 1000
    · rw [if_pos c2, if_pos c2]
      have hj : (M i 12).toNatClampNeg < P.length := in_lt (inOf (by omega) c0 (nlt_nle c1))
      have h4 := p2 _ hj
      have hb : b_at (up2 M i 12 (M i 12 + 1)) q (M i 5) = inAt I (M i 5) := by
        refine rowIs.at ⟨hI.1, ?_, fun k hk => ?_⟩ _
        · rw [up2_n1 _ _ (by omega)]; exact hI.2.1
        · rw [up2_n1 _ _ (by omega)]; exact hI.2.2 k hk
      rw [← h4, m_act, win_fin, p1, win_sw (I := I) (by rw [up2_n2 _ _ (show 5 ≠ 12 by decide)]; exact hb), win_u0]
    · rw [if_neg c2, if_neg c2, win_u0]
  · rw [if_neg c1, if_neg c1, win_u0]
theorem win_it {i p q : Nat} {P : List act4} {I : List Int32} (hp : p + 4 < i ∨ i + 4 < p) (hq : q + 1 < i ∨ i + 4 < q) (n : Nat) : ∀ {M : Nat → Nat → Int32}, progIs M p P → rowIs M q I → win (m_it i p q n M) i = k_it P I n (win M i) := by
  induction n with
  | zero => intro M _ _; rfl
  | succ n ih =>
    intro M hP hI
    unfold m_it k_it
    rw [win_at0, win_ite, ← win_one hP hI hp hq, ih]
    · exact ⟨hP.1, by rw [m_one_out (by omega)]; exact hP.2.1, fun k hk => by rw [m_one_out (by omega), m_one_out (by omega), m_one_out (by omega), m_one_out (by omega)]; exact hP.2.2 k hk⟩
    · exact ⟨hI.1, by rw [m_one_out (by omega)]; exact hI.2.1, fun k hk => by rw [m_one_out (by omega)]; exact hI.2.2 k hk⟩
/-- alike in all that can be asked of them, in midst of a RUN -/
def Qs (K L : Nat → Nat → Int32) : Prop := (∀ b, 4 ≤ b → b ≤ 12 → K 0 b = L 0 b) ∧ (∀ a b, 1 ≤ a → a ≤ 3 → b < 40 → K a b = L a b) ∧ (∀ b, b < 40 → nI b < K 0 4 → K 4 b = L 4 b)
/-- and at its end -/
def Qk (K L : Nat → Nat → Int32) : Prop := (∀ b, 4 ≤ b → b ≤ 11 → K 0 b = L 0 b) ∧ (∀ a b, 1 ≤ a → a ≤ 3 → b < 40 → K a b = L a b) ∧ (∀ b, b < 40 → nI b < K 0 4 → K 4 b = L 4 b)
theorem Qs.k {K L : Nat → Nat → Int32} (h : Qs K L) : Qk K L := ⟨fun b h1 h2 => h.1 b h1 (by omega), h.2⟩
def okL (P : List act4) : Prop := P.length ≤ 80 ∧ ∀ k, k < P.length → okA (P.getD k (0, 0, 0, 0)).1 (P.getD k (0, 0, 0, 0)).2.1 (P.getD k (0, 0, 0, 0)).2.2.1 ∧ (8 ≤ (P.getD k (0, 0, 0, 0)).1 ∧ (P.getD k (0, 0, 0, 0)).1 ≤ 10 → ∃ j : Nat, j ≤ P.length ∧ (P.getD k (0, 0, 0, 0)).2.2.2 = nI j)
section QS
variable {K L : Nat → Nat → Int32}
theorem Qs.u (h : Qs K L) {a k : Nat} (v : Int32) (hk : ¬ (a = 0 ∧ k = 4)) : Qs (up2 K a k v) (up2 L a k v) := by
  obtain ⟨h1, h2, h3⟩ := h
  refine ⟨fun b g1 g2 => ?_, fun c b g1 g2 g3 => ?_, fun b g1 g2 => ?_⟩
  · simp only [up2]; split
    · rfl
    · exact h1 b g1 g2
  · simp only [up2]; split
    · rfl
    · exact h2 c b g1 g2 g3
  · have e : up2 K a k v 0 4 = K 0 4 := by simp only [up2]; exact if_neg (fun z => hk ⟨z.1.symm, z.2.symm⟩)
    rw [e] at g2
    simp only [up2]; split
    · rfl
    · exact h3 b g1 g2
theorem Qs.make (h : Qs K L) (x v a b : Int32) : Qs (m_make K 0 x v a b) (m_make L 0 x v a b) :=
  ((h.u _ (by omega)).u _ (by omega)).u _ (by omega)
theorem Qs.v (h : Qs K L) {x : Int32} (hx : vp_in x 40) {a : Nat} (h1 : 1 ≤ a) (h2 : a ≤ 3) : K a x.toNatClampNeg = L a x.toNatClampNeg := h.2.1 a _ h1 h2 (in_lt hx)
theorem Qs.carry (h : Qs K L) {f : Int32} (t b : Int32) (hf : vp_in f 40) : Qs (m_carry K 0 f t b) (m_carry L 0 f t b) := by
  unfold m_carry
  simp only [Nat.zero_add]
  rw [h.v hf (a := 1) (by decide) (by decide), h.v hf (a := 2) (by decide) (by decide), h.v hf (a := 3) (by decide) (by decide)]
  exact ((h.u _ (by omega)).u _ (by omega)).u _ (by omega)
theorem Qs.bad (h : Qs K L) (how a : Int32) {x : Int32} (hx : vp_in x 40) : Qs (m_bad K 0 how a x) (m_bad L 0 how a x) := by
  unfold m_bad
  simp only [Nat.zero_add]
  rw [h.v hx (a := 1) (by decide) (by decide), h.v hx (a := 2) (by decide) (by decide), h.v hx (a := 3) (by decide) (by decide)]
  exact ((((h.u _ (by omega)).u _ (by omega)).u _ (by omega)).u _ (by omega)).u _ (by omega)
theorem Qs.tell (h : Qs K L) (v : Int32) {c : Nat} (hc : c < 2000) (hK : K 0 4 = nI c) : Qs (m_tell K 0 v) (m_tell L 0 v) := by
  have e4 : L 0 4 = nI c := (h.1 4 (by decide) (by decide)).symm.trans hK
  unfold m_tell
  simp only [Nat.zero_add]
  rw [hK, e4, nI_clamp (by omega)]
  by_cases c0 : (40 : Int32) ≤ nI c
  · rw [if_pos c0, if_pos c0]
    refine ⟨fun b g1 g2 => ?_, fun a b g1 g2 g3 => ?_, fun b g1 g2 => ?_⟩
    · simp only [up2]; split
      · rfl
      · exact h.1 b g1 g2
    · simp only [up2]; split
      · rfl
      · exact h.2.1 a b g1 g2 g3
    · rw [up2_n1 _ _ (by decide), up2_n1 _ _ (by decide)]
      refine h.2.2 b g1 ?_
      rw [hK]
      exact nI_lt (by have := (nI_leI (a := 40) (b := c) (by decide) (by omega)).mp c0; omega) (by omega)
  · rw [if_neg c0, if_neg c0]
    refine ⟨fun b g1 g2 => ?_, fun a b g1 g2 g3 => ?_, fun b g1 g2 => ?_⟩
    · by_cases e : b = 4
      · subst e; rw [up2_eq, up2_eq]
      · rw [up2_n2 _ _ e, up2_n2 _ _ e, up2_n1 _ _ (by decide), up2_n1 _ _ (by decide)]; exact h.1 b g1 g2
    · rw [up2_n1 _ _ (by omega), up2_n1 _ _ (by omega), up2_n1 _ _ (by omega), up2_n1 _ _ (by omega)]; exact h.2.1 a b g1 g2 g3
    · rw [up2_eq] at g2
      rw [up2_n1 (i := 0) (a := 4) _ _ (by decide), up2_n1 (i := 0) (a := 4) _ _ (by decide)]
      by_cases e : b = c
      · subst e; rw [up2_eq, up2_eq]
      · rw [up2_n2 _ _ e, up2_n2 _ _ e]
        refine h.2.2 b g1 ?_
        rw [hK]
        rw [nI_1] at g2
        exact nI_lt (by have := (nI_ltI (a := b) (b := c + 1) (by omega) (by omega)).mp g2; omega) (by omega)
theorem Qs.goIf (h : Qs K L) (z n : Int32) : Qs (m_goIf K 0 z n) (m_goIf L 0 z n) := by
  unfold m_goIf
  by_cases e : z = 0
  · rw [if_pos e, if_pos e]; exact h
  · rw [if_neg e, if_neg e]; exact h.u _ (by decide)
theorem Qs.fin (h : Qs K L) : Qs (m_fin K 0) (m_fin L 0) := by
  by_cases e : K 0 8 = -1
  · have e' : L 0 8 = -1 := (h.1 8 (by decide) (by decide)).symm.trans e
    rw [m_fin_p e, m_fin_p e', h.1 6 (by decide) (by decide)]
    exact h.u _ (by decide)
  · have e' : ¬ L 0 8 = -1 := fun z => e ((h.1 8 (by decide) (by decide)).trans z)
    rw [m_fin_n e, m_fin_n e']; exact h
theorem Qs.sw (h : Qs K L) {x : act4} {a cnt : Int32} {I : List Int32} (hA : okA x.1 x.2.1 x.2.2.1) {c : Nat} (hc : c < 2000) (hK : K 0 4 = nI c) : Qs (k_sw K x a I cnt) (k_sw L x a I cnt) := by
  obtain ⟨k, r, s, n⟩ := x
  have r8 : ∀ {j : Int32}, k = j → j ≠ 10 → j ≠ 13 → vp_in r 40 := fun e h1 h2 => in40 (hA.1 (by rw [e]; exact h1) (by rw [e]; exact h2))
  have s8 : ∀ {j : Int32}, k = j → 2 ≤ j ∧ j ≤ 9 → vp_in s 40 := fun e h1 => in40 (hA.2 (by rw [e]; exact h1))
  unfold k_sw
  dsimp only
  by_cases e0 : k = 0
  · rw [if_pos e0, if_pos e0, ← h.1 5 (by decide) (by decide)]
    unfold m_rd
    split
    · exact h.make _ _ _ _
    · rw [← h.1 5 (by decide) (by decide)]; exact (h.make _ _ _ _).u _ (by decide)
  rw [if_neg e0, if_neg e0]
  by_cases e1 : k = 1
  · rw [if_pos e1, if_pos e1]; exact h.make _ _ _ _
  rw [if_neg e1, if_neg e1]
  by_cases e2 : k = 2
  · rw [if_pos e2, if_pos e2]; exact h.carry _ _ (s8 e2 (by decide))
  rw [if_neg e2, if_neg e2]
  by_cases e3 : k = 3
  · rw [if_pos e3, if_pos e3, h.v (r8 e3 (by decide) (by decide)) (a := 1) (by decide) (by decide), h.v (s8 e3 (by decide)) (a := 1) (by decide) (by decide), h.v (r8 e3 (by decide) (by decide)) (a := 3) (by decide) (by decide), h.v (s8 e3 (by decide)) (a := 3) (by decide) (by decide)]; exact h.make _ _ _ _
  rw [if_neg e3, if_neg e3]
  by_cases e4 : k = 4
  · rw [if_pos e4, if_pos e4, h.v (r8 e4 (by decide) (by decide)) (a := 1) (by decide) (by decide), h.v (s8 e4 (by decide)) (a := 1) (by decide) (by decide), h.v (r8 e4 (by decide) (by decide)) (a := 3) (by decide) (by decide), h.v (s8 e4 (by decide)) (a := 3) (by decide) (by decide)]; exact h.make _ _ _ _
  rw [if_neg e4, if_neg e4]
  by_cases e5 : k = 5
  · rw [if_pos e5, if_pos e5, h.v (r8 e5 (by decide) (by decide)) (a := 1) (by decide) (by decide), h.v (s8 e5 (by decide)) (a := 1) (by decide) (by decide), h.v (r8 e5 (by decide) (by decide)) (a := 3) (by decide) (by decide), h.v (s8 e5 (by decide)) (a := 3) (by decide) (by decide)]; exact h.make _ _ _ _
  rw [if_neg e5, if_neg e5]
  by_cases e6 : k = 6
  · rw [if_pos e6, if_pos e6]; unfold m_load; simp only [Nat.zero_add]
    rw [h.v (s8 e6 (by decide)) (a := 1) (by decide) (by decide), h.v (s8 e6 (by decide)) (a := 3) (by decide) (by decide)]
    split
    · exact h.bad _ _ (s8 e6 (by decide))
    · rename_i z; exact h.carry _ _ (pl_in z)
  rw [if_neg e6, if_neg e6]
  by_cases e7 : k = 7
  · rw [if_pos e7, if_pos e7]; unfold m_store; simp only [Nat.zero_add]
    rw [h.v (r8 e7 (by decide) (by decide)) (a := 1) (by decide) (by decide), h.v (r8 e7 (by decide) (by decide)) (a := 3) (by decide) (by decide)]
    split
    · exact h.bad _ _ (r8 e7 (by decide) (by decide))
    · exact h.carry _ _ (s8 e7 (by decide))
  rw [if_neg e7, if_neg e7]
  by_cases e8 : k = 8
  · rw [if_pos e8, if_pos e8, h.v (r8 e8 (by decide) (by decide)) (a := 1) (by decide) (by decide), h.v (s8 e8 (by decide)) (a := 1) (by decide) (by decide)]; exact h.goIf _ _
  rw [if_neg e8, if_neg e8]
  by_cases e9 : k = 9
  · rw [if_pos e9, if_pos e9, h.v (r8 e9 (by decide) (by decide)) (a := 1) (by decide) (by decide), h.v (s8 e9 (by decide)) (a := 1) (by decide) (by decide)]; exact h.goIf _ _
  rw [if_neg e9, if_neg e9]
  by_cases e10 : k = 10
  · rw [if_pos e10, if_pos e10]; exact h.u _ (by decide)
  rw [if_neg e10, if_neg e10]
  by_cases e11 : k = 11
  · rw [if_pos e11, if_pos e11]; unfold m_jump; simp only [Nat.zero_add]
    rw [h.v (r8 e11 (by decide) (by decide)) (a := 1) (by decide) (by decide)]
    split
    · exact h.bad _ _ (r8 e11 (by decide) (by decide))
    · split
      · exact h.bad _ _ (r8 e11 (by decide) (by decide))
      · exact h.u _ (by decide)
  rw [if_neg e11, if_neg e11]
  by_cases e12 : k = 12
  · rw [if_pos e12, if_pos e12, h.v (r8 e12 (by decide) (by decide)) (a := 1) (by decide) (by decide)]; exact h.tell _ hc hK
  rw [if_neg e12, if_neg e12]
  exact h.u _ (by decide)
theorem Qs.one {P : List act4} {I : List Int32} (h : Qs K L) (hP : okL P) {c : Nat} (hc : c < 2000) (hK : K 0 4 = nI c) : Qs (k_one P I K) (k_one P I L) := by
  unfold k_one
  rw [← h.1 12 (by decide) (by decide), ← h.1 6 (by decide) (by decide)]
  by_cases c0 : K 0 12 < 0
  · rw [if_pos c0, if_pos c0]; exact h.u _ (by decide)
  rw [if_neg c0, if_neg c0]
  by_cases c1 : K 0 12 < nI P.length
  · rw [if_pos c1, if_pos c1]
    have hj : (K 0 12).toNatClampNeg < P.length := in_lt (inOf (by have := hP.1; omega) c0 (nlt_nle c1))
    by_cases c2 : K 0 6 < 1000
    · rw [if_pos c2, if_pos c2]
      exact ((h.u (K 0 12 + 1) (by decide)).sw (hP.2 _ hj).1 hc (by rw [up2_n2 _ _ (by decide)]; exact hK)).fin
    · rw [if_neg c2, if_neg c2]; exact h.u _ (by decide)
  · rw [if_neg c1, if_neg c1]; exact h.u _ (by decide)
end QS
theorem k_one_4 {P : List act4} {I : List Int32} {K : Nat → Nat → Int32} : k_one P I K 0 4 = K 0 4 ∨ k_one P I K 0 4 = K 0 4 + 1 := by
  have hsw : ∀ (K : Nat → Nat → Int32) (x : act4) (a cnt : Int32), k_sw K x a I cnt 0 4 = K 0 4 ∨ k_sw K x a I cnt 0 4 = K 0 4 + 1 := by
    intro K x a cnt
    obtain ⟨k, r, s, n⟩ := x
    unfold k_sw
    dsimp only
    have hm : ∀ v u, m_make K 0 r v a u 0 4 = K 0 4 := fun v u => m_make_0 K 0 r v a u 4
    by_cases e0 : k = 0
    · rw [if_pos e0]; left; unfold m_rd; split
      · exact hm _ _
      · rw [up2_n2 _ _ (by decide)]; exact hm _ _
    rw [if_neg e0]
    by_cases e1 : k = 1
    · rw [if_pos e1]; exact Or.inl (hm _ _)
    rw [if_neg e1]
    by_cases e2 : k = 2
    · rw [if_pos e2]; exact Or.inl (m_carry_0 _ _ _ 4)
    rw [if_neg e2]
    by_cases e3 : k = 3
    · rw [if_pos e3]; exact Or.inl (hm _ _)
    rw [if_neg e3]
    by_cases e4 : k = 4
    · rw [if_pos e4]; exact Or.inl (hm _ _)
    rw [if_neg e4]
    by_cases e5 : k = 5
    · rw [if_pos e5]; exact Or.inl (hm _ _)
    rw [if_neg e5]
    by_cases e6 : k = 6
    · rw [if_pos e6]; left; unfold m_load; split
      · exact m_bad_4 _ _ _
      · exact m_carry_0 _ _ _ 4
    rw [if_neg e6]
    by_cases e7 : k = 7
    · rw [if_pos e7]; left; unfold m_store; split
      · exact m_bad_4 _ _ _
      · exact m_carry_0 _ _ _ 4
    rw [if_neg e7]
    by_cases e8 : k = 8
    · rw [if_pos e8]; left; unfold m_goIf; split <;> first | rfl | exact up2_n2 _ _ (by decide)
    rw [if_neg e8]
    by_cases e9 : k = 9
    · rw [if_pos e9]; left; unfold m_goIf; split <;> first | rfl | exact up2_n2 _ _ (by decide)
    rw [if_neg e9]
    by_cases e10 : k = 10
    · rw [if_pos e10]; exact Or.inl (up2_n2 _ _ (by decide))
    rw [if_neg e10]
    by_cases e11 : k = 11
    · rw [if_pos e11]; left; unfold m_jump; split
      · exact m_bad_4 _ _ _
      · split
        · exact m_bad_4 _ _ _
        · exact up2_n2 _ _ (by decide)
    rw [if_neg e11]
    by_cases e12 : k = 12
    · rw [if_pos e12]; right; simp only [m_tell, up2_eq]
    rw [if_neg e12]; exact Or.inl (up2_n2 _ _ (by decide))
  unfold k_one
  by_cases c0 : K 0 12 < 0
  · rw [if_pos c0]; exact Or.inl (up2_n2 _ _ (by decide))
  rw [if_neg c0]
  by_cases c1 : K 0 12 < nI P.length
  · rw [if_pos c1]
    by_cases c2 : K 0 6 < 1000
    · rw [if_pos c2, m_fin_4]
      have h := hsw (up2 K 0 12 (K 0 12 + 1)) (P.getD (K 0 12).toNatClampNeg (0, 0, 0, 0)) (K 0 12) (nI P.length)
      rw [up2_n2 _ _ (show 4 ≠ 12 by decide)] at h
      exact h
    · rw [if_neg c2]; exact Or.inl (up2_n2 _ _ (by decide))
  · rw [if_neg c1]; exact Or.inl (up2_n2 _ _ (by decide))
theorem Qs.it {P : List act4} {I : List Int32} (hP : okL P) (n : Nat) : ∀ {K L : Nat → Nat → Int32} {c : Nat}, Qs K L → c + n < 2000 → K 0 4 = nI c → Qs (k_it P I n K) (k_it P I n L) := by
  induction n with
  | zero => intro K L c h _ _; exact h
  | succ n ih =>
    intro K L c h hc hK
    unfold k_it
    rw [← h.1 7 (by decide) (by decide)]
    by_cases e : K 0 7 = -1
    · rw [if_pos e, if_pos e]
      rcases k_one_4 (P := P) (I := I) (K := K) with e4 | e4
      · exact ih (c := c) (h.one hP (by omega) hK) (by omega) (e4.trans hK)
      · exact ih (c := c + 1) (h.one hP (by omega) hK) (by omega) (by rw [e4, hK, nI_succ])
    · rw [if_neg e, if_neg e]; exact h
theorem Qs.clear (M : Nat → Nat → Int32) (i : Nat) : Qs (win (m_clear M i) i) k_0 := by
  have h4 : m_clear M i i 4 = 0 := by
    simp only [m_clear]
    rw [up2_n2 _ _ (by decide), up2_n2 _ _ (by decide), up2_n2 _ _ (by decide), up2_n2 _ _ (by decide), up2_n2 _ _ (by decide), up2_n2 _ _ (by decide), up2_n2 _ _ (by decide), up2_n2 _ _ (by decide), up2_eq]
  refine ⟨fun b h1 h2 => ?_, fun a b h1 h2 h3 => ?_, fun b h1 h2 => ?_⟩
  · have : b = 4 ∨ b = 5 ∨ b = 6 ∨ b = 7 ∨ b = 8 ∨ b = 9 ∨ b = 10 ∨ b = 11 ∨ b = 12 := by omega
    rcases this with rfl | rfl | rfl | rfl | rfl | rfl | rfl | rfl | rfl <;> simp [win, m_clear, up2, k_0]
  · have : a = 1 ∨ a = 2 ∨ a = 3 := by omega
    rcases this with rfl | rfl | rfl <;> simp [win, m_clear, up2, k_0, b_fill, h3]
  · exfalso
    have e : win (m_clear M i) i 0 4 = 0 := h4
    rw [e] at h2
    exact nI_pos (by omega) h2
/-- a RUN of a machine is THE RUN -/
theorem run_is {w : gw} {R : Nat → Nat → Option Nat} {M : Nat → Nat → Int32} {i p q : Nat} {P : List act4} {I : List Int32} (hi : isMach w R i) (hp : isProg w R p) (hq : isRow w R q) (hP : progIs M p P) (hI : rowIs M q I) (hL : okL P) : Qs (win (m_run M i p q) i) (RUN P I) := by
  have ap := quad_apart hi hp (by decide) (by decide) (by decide)
  have aq := row_apart hi hq (by decide) (by decide)
  have hP' : progIs (m_clear M i) p P := ⟨hP.1, by rw [m_clear_out (by omega)]; exact hP.2.1, fun k hk => by rw [m_clear_out (by omega), m_clear_out (by omega), m_clear_out (by omega), m_clear_out (by omega)]; exact hP.2.2 k hk⟩
  have hI' : rowIs (m_clear M i) q I := ⟨hI.1, by rw [m_clear_out (by omega)]; exact hI.2.1, fun k hk => by rw [m_clear_out (by omega)]; exact hI.2.2 k hk⟩
  rw [m_run, win_it ap aq 1001 hP' hI', RUN]
  exact Qs.it hL 1001 (c := 0) (Qs.clear M i) (by decide) (by rw [nI_0]; exact (Qs.clear M i).1 4 (by decide) (by decide))
theorem okP_of {M : Nat → Nat → Int32} {p : Nat} {P : List act4} (hP : progIs M p P) (hL : okL P) : okP M p := by
  refine ⟨P.length, hP.1, hP.2.1, fun k hk => ?_⟩
  have h := (hL.2 k hk).1
  rw [← hP.2.2 k hk] at h
  exact h
