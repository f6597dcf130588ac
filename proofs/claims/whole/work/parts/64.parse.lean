/-! PARSING, as functions of the tokens. A state: (number of the token that is next, fault, its place) -/
abbrev px : Type := Nat × Int32 × Int32
def t_flt (T : List Int32) (k : Int32) (x : px) : px := (x.1, k, tP T x.1)
def t_bad (T : List Int32) (x : px) : px := t_flt T (if tK T x.1 = 0 then 1 else 2) x
def t_take (T : List Int32) (k : Int32) (x : px) : px := if x.2.1 = 0 then (if tK T x.1 = k then (x.1 + 1, 0, x.2.2) else t_bad T x) else x
def t_val (T : List Int32) (k : Int32) (x : px) : Int32 := if x.2.1 = 0 then (if tK T x.1 = k then tV T x.1 else -1) else -1
abbrev isLab (T : List Int32) (n : Nat) : Prop := tK T n = 1 ∧ kwd (tW T n) = -1
def t_want (T : List Int32) (x : px) : px := if x.2.1 = 0 then (if isLab T x.1 then (x.1 + 1, 0, x.2.2) else t_bad T x) else x
abbrev pL : Type := List (List Int32 × Nat)
def lfd (L : pL) (W : List Int32) : Option Nat := hfd (fun j => (L.getD j ([], 0)).1 = W) L.length
def t_lab (T : List Int32) (c : Nat) (s : px × pL) : px × pL := if 20 ≤ s.2.length then (t_flt T 2 s.1, s.2) else match lfd s.2 (tW T s.1.1) with
  | some _ => (t_flt T 3 s.1, s.2)
  | none => (t_take T 4 (t_take T 1 s.1), s.2 ++ [(tW T s.1.1, c)])
def t_labs (T : List Int32) (c : Nat) : Nat → px × pL → px × pL
  | 0, s => s
  | f + 1, s => if s.1.2.1 = 0 ∧ isLab T s.1.1 then t_labs T c f (t_lab T c s) else s
abbrev act6 : Type := act4 × List Int32 × Int32
def goL (k : Int32) : Int32 := if k = 8 then 1 else if k = 9 then 1 else if k = 10 then 1 else 0
def rg (k : Int32) : Int32 := regs k.toNatClampNeg
def a_x2 (T : List Int32) (k : Int32) (x : px) : px := if rg k < 1 then x else t_take T 2 x
def a_r (T : List Int32) (k : Int32) (x : px) : Int32 := if rg k < 1 then -1 else t_val T 2 x
def a_x3 (T : List Int32) (k : Int32) (x : px) : px := if rg k < 2 then x else t_take T 2 x
def a_s (T : List Int32) (k : Int32) (x : px) : Int32 := if rg k < 2 then -1 else t_val T 2 x
def a_x4 (T : List Int32) (k : Int32) (x : px) : px := if k = 1 then t_take T 3 x else x
def a_n (T : List Int32) (k : Int32) (x : px) : Int32 := if k = 1 then t_val T 3 x else 0
def a_x5 (T : List Int32) (k : Int32) (x : px) : px := if goL k = 0 then x else t_want T x
def a_4 (T : List Int32) (k : Int32) (x : px) : px := a_x4 T k (a_x3 T k (a_x2 T k x))
def t_act (T : List Int32) (k : Int32) (x : px) : px × act6 := (a_x5 T k (a_4 T k x), ((k, a_r T k x, a_s T k (a_x2 T k x), a_n T k (a_x3 T k (a_x2 T k x))), tW T (a_4 T k x).1, tP T (a_4 T k x).1))
abbrev pS : Type := px × pL × List act6
def t_mid (T : List Int32) (x : px) (A : List act6) : px × List act6 := if x.2.1 = 0 ∧ tK T x.1 = 1 then (if 80 ≤ A.length then (t_flt T 2 x, A) else ((t_act T (kwd (tW T x.1)) (t_take T 1 x)).1, A ++ [(t_act T (kwd (tW T x.1)) (t_take T 1 x)).2])) else (x, A)
def t_l1 (T : List Int32) (s : pS) : px × pL := t_labs T s.2.2.length 21 (s.1, s.2.1)
def t_l2 (T : List Int32) (s : pS) : px × List act6 := t_mid T (t_l1 T s).1 s.2.2
def t_more (T : List Int32) (x : px) : Bool := decide (x.2.1 = 0 ∧ tK T x.1 = 5)
def t_fin (T : List Int32) (x : px) : px := if x.2.1 = 0 ∧ tK T x.1 = 6 then x else t_take T 5 x
def t_line (T : List Int32) (s : pS) : pS := (t_fin T (t_l2 T s).1, (t_l1 T s).2, (t_l2 T s).2)
def t_go (T : List Int32) (s : pS) : Bool := t_more T (t_l2 T s).1
def t_lines (T : List Int32) : Nat → pS → pS
  | 0, s => s
  | f + 1, s => if t_go T s = true then t_lines T f (t_line T s) else t_line T s
def dA : act6 := ((0, 0, 0, 0), [], 0)
abbrev noL (L : pL) (A : List act6) (k : Nat) : Prop := ¬ goL (A.getD k dA).1.1 = 0 ∧ lfd L (A.getD k dA).2.1 = none
def rsN (L : pL) (a : act6) : Int32 := if goL a.1.1 = 0 then a.1.2.2.2 else nI (L.getD ((lfd L a.2.1).getD 0) ([], 0)).2
def rs (L : pL) (a : act6) : act4 := (a.1.1, a.1.2.1, a.1.2.2.1, rsN L a)
def t_end (s : pS) : Int32 × Int32 × List act4 := if s.1.2.1 = 0 then (match hfd (noL s.2.1 s.2.2) s.2.2.length with
  | some k => (4, (s.2.2.getD k dA).2.2, [])
  | none => (0, s.1.2.2, s.2.2.map (rs s.2.1))) else (s.1.2.1, s.1.2.2, [])
def LINES (T : List Int32) : pS := t_lines T 1001 ((0, 0, -1), [], [])
/-- fault, its place, the acts -/
def PARSE (T : List Int32) : Int32 × Int32 × List act4 := t_end (LINES T)
/-! what is kept -/
theorem t_take_ne {T : List Int32} {k : Int32} {x : px} (h : ¬ x.2.1 = 0) : t_take T k x = x := by unfold t_take; rw [if_neg h]
theorem t_take_ok {T : List Int32} {k : Int32} {x : px} (h : x.2.1 = 0) (hk : tK T x.1 = k) : t_take T k x = (x.1 + 1, 0, x.2.2) := by unfold t_take; rw [if_pos h, if_pos hk]
theorem t_take_bad {T : List Int32} {k : Int32} {x : px} (h : x.2.1 = 0) (hk : ¬ tK T x.1 = k) : t_take T k x = t_bad T x := by unfold t_take; rw [if_pos h, if_neg hk]
theorem t_bad_ne (T : List Int32) (x : px) : ¬ (t_bad T x).2.1 = 0 := by
  show ¬ (if tK T x.1 = 0 then (1 : Int32) else 2) = 0
  split <;> decide
theorem live_take {T : List Int32} {k : Int32} {x : px} (hl : live T x.1) (h0 : ¬ k = 0) (h6 : ¬ k = 6) : live T (t_take T k x).1 := by
  by_cases h : x.2.1 = 0
  · by_cases hk : tK T x.1 = k
    · rw [t_take_ok h hk]; exact live_s hl (by rw [hk]; exact h0) (by rw [hk]; exact h6)
    · rw [t_take_bad h hk]; exact hl
  · rw [t_take_ne h]; exact hl
theorem live_want {T : List Int32} {x : px} (hl : live T x.1) : live T (t_want T x).1 := by
  unfold t_want
  by_cases h : x.2.1 = 0
  · rw [if_pos h]
    by_cases hk : isLab T x.1
    · rw [if_pos hk]; exact live_s hl (by rw [hk.1]; decide) (by rw [hk.1]; decide)
    · rw [if_neg hk]; exact hl
  · rw [if_neg h]; exact hl
theorem t_want_ne {T : List Int32} {x : px} (h : ¬ x.2.1 = 0) : t_want T x = x := by unfold t_want; rw [if_neg h]
theorem a_x2_ne {T : List Int32} {k : Int32} {x : px} (h : ¬ x.2.1 = 0) : a_x2 T k x = x := by unfold a_x2; split; rfl; exact t_take_ne h
theorem a_x3_ne {T : List Int32} {k : Int32} {x : px} (h : ¬ x.2.1 = 0) : a_x3 T k x = x := by unfold a_x3; split; rfl; exact t_take_ne h
theorem a_x4_ne {T : List Int32} {k : Int32} {x : px} (h : ¬ x.2.1 = 0) : a_x4 T k x = x := by unfold a_x4; split; exact t_take_ne h; rfl
theorem a_x5_ne {T : List Int32} {k : Int32} {x : px} (h : ¬ x.2.1 = 0) : a_x5 T k x = x := by unfold a_x5; split; rfl; exact t_want_ne h
theorem live_x2 {T : List Int32} {k : Int32} {x : px} (h : live T x.1) : live T (a_x2 T k x).1 := by unfold a_x2; split; exact h; exact live_take h (by decide) (by decide)
theorem live_x3 {T : List Int32} {k : Int32} {x : px} (h : live T x.1) : live T (a_x3 T k x).1 := by unfold a_x3; split; exact h; exact live_take h (by decide) (by decide)
theorem live_x4 {T : List Int32} {k : Int32} {x : px} (h : live T x.1) : live T (a_x4 T k x).1 := by unfold a_x4; split; exact live_take h (by decide) (by decide); exact h
theorem live_x5 {T : List Int32} {k : Int32} {x : px} (h : live T x.1) : live T (a_x5 T k x).1 := by unfold a_x5; split; exact h; exact live_want h
theorem live_4 {T : List Int32} {k : Int32} {x : px} (h : live T x.1) : live T (a_4 T k x).1 := live_x4 (live_x3 (live_x2 h))
/-- the labels of a line -/
theorem t_lab_ok {T : List Int32} {c : Nat} {s : px × pL} (hl : live T s.1.1) (hL : s.2.length ≤ 20) : live T (t_lab T c s).1.1 ∧ (t_lab T c s).2.length ≤ 20 ∧ ((t_lab T c s).1.2.1 = 0 → (t_lab T c s).2.length = s.2.length + 1) := by
  unfold t_lab
  by_cases h : 20 ≤ s.2.length
  · rw [if_pos h]; exact ⟨hl, hL, fun z => absurd z (by show ¬ (2 : Int32) = 0; decide)⟩
  · rw [if_neg h]
    split
    · exact ⟨hl, hL, fun z => absurd z (by show ¬ (3 : Int32) = 0; decide)⟩
    · refine ⟨live_take (live_take hl (by decide) (by decide)) (by decide) (by decide), ?_, fun _ => ?_⟩
      · show (s.2 ++ [(tW T s.1.1, c)]).length ≤ 20
        rw [List.length_append]; simp; omega
      · show (s.2 ++ [(tW T s.1.1, c)]).length = s.2.length + 1
        rw [List.length_append]; rfl
theorem t_labs_ok {T : List Int32} {c : Nat} : ∀ (f : Nat) (s : px × pL), live T s.1.1 → s.2.length ≤ 20 → live T (t_labs T c f s).1.1 ∧ (t_labs T c f s).2.length ≤ 20 ∧ (21 ≤ s.2.length + f ∨ ¬ s.1.2.1 = 0 → ¬ ((t_labs T c f s).1.2.1 = 0 ∧ isLab T (t_labs T c f s).1.1)) := by
  intro f
  induction f with
  | zero =>
    intro s hl hL
    refine ⟨hl, hL, fun h z => ?_⟩
    rcases h with h | h
    · omega
    · exact h z.1
  | succ f ih =>
    intro s hl hL
    unfold t_labs
    by_cases h : s.1.2.1 = 0 ∧ isLab T s.1.1
    · rw [if_pos h]
      obtain ⟨a1, a2, a3⟩ := t_lab_ok (c := c) hl hL
      obtain ⟨b1, b2, b3⟩ := ih _ a1 a2
      refine ⟨b1, b2, fun hh => b3 ?_⟩
      by_cases g : (t_lab T c s).1.2.1 = 0
      · rcases hh with hh | hh
        · exact Or.inl (by have := a3 g; omega)
        · exact absurd h.1 hh
      · exact Or.inr g
    · rw [if_neg h]; exact ⟨hl, hL, fun _ => h⟩
theorem t_l1_ok {T : List Int32} {s : pS} (hl : live T s.1.1) (hL : s.2.1.length ≤ 20) : live T (t_l1 T s).1.1 ∧ (t_l1 T s).2.length ≤ 20 ∧ ¬ ((t_l1 T s).1.2.1 = 0 ∧ isLab T (t_l1 T s).1.1) := by
  obtain ⟨a1, a2, a3⟩ := t_labs_ok (T := T) (c := s.2.2.length) 21 (s.1, s.2.1) hl hL
  exact ⟨a1, a2, a3 (Or.inl (by omega))⟩
theorem live_act {T : List Int32} {k : Int32} {x : px} (h : live T x.1) : live T (t_act T k x).1.1 := live_x5 (live_4 h)
theorem t_mid_ok {T : List Int32} {x : px} {A : List act6} (hl : live T x.1) (hA : A.length ≤ 80) : live T (t_mid T x A).1.1 ∧ (t_mid T x A).2.length ≤ 80 := by
  unfold t_mid
  by_cases h : x.2.1 = 0 ∧ tK T x.1 = 1
  · rw [if_pos h]
    by_cases g : 80 ≤ A.length
    · rw [if_pos g]; exact ⟨hl, hA⟩
    · rw [if_neg g]
      refine ⟨live_act (live_take hl (by decide) (by decide)), ?_⟩
      show (A ++ [_]).length ≤ 80
      rw [List.length_append]; simp; omega
  · rw [if_neg h]; exact ⟨hl, hA⟩
theorem live_fin {T : List Int32} {x : px} (h : live T x.1) : live T (t_fin T x).1 := by
  unfold t_fin
  split
  · exact h
  · exact live_take h (by decide) (by decide)
/-- a state of the reading that may be -/
def okS (T : List Int32) (s : pS) : Prop := live T s.1.1 ∧ s.2.1.length ≤ 20 ∧ s.2.2.length ≤ 80
theorem okS.line {T : List Int32} {s : pS} (h : okS T s) : okS T (t_line T s) := by
  obtain ⟨a1, a2, a3⟩ := t_l1_ok h.1 h.2.1
  obtain ⟨b1, b2⟩ := t_mid_ok (A := s.2.2) a1 h.2.2
  exact ⟨live_fin b1, a2, b2⟩
theorem okS.lines {T : List Int32} : ∀ (f : Nat) {s : pS}, okS T s → okS T (t_lines T f s) := by
  intro f
  induction f with
  | zero => intro s h; exact h
  | succ f ih =>
    intro s h
    unfold t_lines
    split
    · exact ih h.line
    · exact h.line
theorem okS_0 (T : List Int32) : okS T ((0, 0, -1), [], []) := ⟨live_0 T, Nat.zero_le _, Nat.zero_le _⟩
