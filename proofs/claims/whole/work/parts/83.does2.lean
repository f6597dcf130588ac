/-! input, program, run, small; the state stays one that may be -/
def A_input (s : aSt) : Int32 := if 24 < (s_T s).length then -1 else if s_n s < 30 then nI (s_n s) else -1
def N_input (s : aSt) : aSt := if 24 < (s_T s).length then s else if s_n s < 30 then ([], s_P s, s_n s + 1, fun k => if k = s_n s then s_T s else s_I s k, s_f s, s_r s, s_s s) else s
theorem nI_back (n : Nat) : nI n + 1 - 1 = nI n := Int32.add_sub_cancel _ _

theorem C7_input {l : Launch} {D : va_G} {w : gw} {M : Nat → Nat → Int32} {J : Nat → Nat → Int64} {R : Nat → Nat → Option Nat} {s : aSt} (hw : w.1 = 166) (ho : okSt s) (h : repC M J R s)  : Ct l yX7_input wsX7_input ({ frames := 2, cells := 0, slots := 0, locals := 43 } : Room) D w [.ref (w.2.1 0)] (M, J, R) (pstC M J R (N_input s) (A_input s)) := by
  obtain ⟨hR, ⟨π, ip, hsh⟩, hT, hn, hI, hf1, hf2, hnm, hrun, hS, hW⟩ := id h
  obtain ⟨o1, o2, o3, o4, o5, o6⟩ := id ho
  have o1l := o1.1
  refine Cf.mono (c_X7_input (n := s_n s) (t := (s_T s).length) hw hR o3 hn hT.2.1 o1l) ?_
  unfold A_input N_input
  rw [hT.2.1, hn]
  by_cases z : 24 < (s_T s).length
  · have z2 : (24 : Int32) < nI (s_T s).length := nI_lt (a := 24) z (by omega)
    rw [if_pos z2, if_pos z2, if_pos z, if_pos z]
    exact ⟨rfl, h, hiS.rf M, hiS.rf J, hiS.rf R⟩
  have z2 : ¬ (24 : Int32) < nI (s_T s).length := fun y => z ((nI_ltI (a := 24) (by decide) (by omega)).mp y)
  rw [if_neg z2, if_neg z2, if_neg z, if_neg z]
  by_cases y : s_n s < 30
  rotate_left
  · have y2 : ¬ nI (s_n s) < 30 := fun q => y ((nI_ltI (b := 30) (by omega) (by decide)).mp q)
    rw [if_neg y2, if_neg y2, if_neg y, if_neg y]
    exact ⟨rfl, h, hiS.rf M, hiS.rf J, hiS.rf R⟩
  have y2 : nI (s_n s) < 30 := nI_lt (b := 30) y (by decide)
  rw [if_pos y2, if_pos y2, if_pos y, if_pos y, nI_back, nI_p1]
  have hu : ∀ a b, ¬ (a = 1 ∧ b = 1) → ¬ (a = 0 ∧ b = 9) → a ≠ 74 + 2 * s_n s → a ≠ 74 + 2 * s_n s + 1 → up2 (up2 (b_cp M (74 + 2 * s_n s) 1 (s_T s).length) 1 1 0) 0 9 (nI (s_n s + 1)) a b = M a b := fun a b q1 q2 q3 q4 => by rw [up2_nb q2, up2_nb q1, b_cp_o _ q3 q4]
  have hrow : rowIs (up2 (up2 (b_cp M (74 + 2 * s_n s) 1 (s_T s).length) 1 1 0) 0 9 (nI (s_n s + 1))) (74 + 2 * s_n s) (s_T s) := (row_cp (r := 74 + 2 * s_n s) hT (by rw [ln_row y]; omega)).o (fun a b q1 q2 => by rw [up2_n1 _ _ (by omega), up2_n1 _ _ (by omega)])
  have h11 : up2 (up2 (b_cp M (74 + 2 * s_n s) 1 (s_T s).length) 1 1 0) 0 9 (nI (s_n s + 1)) 1 1 = 0 := by rw [up2_n1 _ _ (by decide), up2_eq]
  have h09 : up2 (up2 (b_cp M (74 + 2 * s_n s) 1 (s_T s).length) 1 1 0) 0 9 (nI (s_n s + 1)) 0 9 = nI (s_n s + 1) := up2_eq _ _ _ _
  revert hu hrow h11 h09
  generalize up2 (up2 (b_cp M (74 + 2 * s_n s) 1 (s_T s).length) 1 1 0) 0 9 (nI (s_n s + 1)) = M5
  intro hu hrow h11 h09
  obtain ⟨s1, s2, s3, s4⟩ := hsh
  refine ⟨rfl, ⟨hR, ⟨π, ip, fun k hk => ⟨(s1 k hk).1, (s1 k hk).2.1, (s1 k hk).2.2.1, (s1 k hk).2.2.2.o (fun a b q1 q2 => hu a b (by rcases (s1 k hk).2.1 with q | q | q | q <;> omega) (by rcases (s1 k hk).2.1 with q | q | q | q <;> omega) (by rcases (s1 k hk).2.1 with q | q | q | q <;> omega) (by rcases (s1 k hk).2.1 with q | q | q | q <;> omega))⟩, s2, s3, s4⟩, ⟨Nat.zero_le _, h11, fun k hk => absurd hk (Nat.not_lt_zero k)⟩, h09, fun i hi => ?_, (hu 4 9 (by omega) (by omega) (by omega) (by omega)).trans hf1, (hu 4 10 (by omega) (by omega) (by omega) (by omega)).trans hf2, hnm, hrun.o (hu 0 10 (by omega) (by omega) (by omega) (by omega)) (fun x y q1 q2 => hu x y (by omega) (by omega) (by omega) (by omega)), hS.o (fun a b q1 q2 => hu a b (by omega) (by omega) (by omega) (by omega)), hW.o (fun a b q1 q2 => hu a b (by omega) (by omega) (by omega) (by omega))⟩, fun x y q => hu x y (by omega) (by omega) (by omega) (by omega), hiS.rf J, hiS.rf R⟩
  have hi : i < s_n s + 1 := hi
  show rowIs M5 (74 + 2 * i) (if i = s_n s then s_T s else s_I s i)
  by_cases g : i = s_n s
  · rw [if_pos g, g]; exact hrow
  · rw [if_neg g]
    exact (hI i (by omega)).o (fun a b q1 q2 => hu a b (by omega) (by omega) (by omega) (by omega))

theorem C8_input {l : Launch} {D : va_G} {w : gw} {M : Nat → Nat → Int32} {J : Nat → Nat → Int64} {R : Nat → Nat → Option Nat} {s : aSt} (hw : w.1 = 166) (ho : okSt s) (h : repM M J R s)  : Ct l yX8_input wsX8_input ({ frames := 0, cells := 0, slots := 0, locals := 0 } : Room) D w [.ref (w.2.1 134)] (M, J, R) (postM M J R (N_input s) (A_input s)) := by
  obtain ⟨hR, hT, hP, hn, hI, hf1, hf2, hrun, hS⟩ := id h
  obtain ⟨o1, o2, o3, o4, o5, o6⟩ := id ho
  have o1l := o1.1
  refine Cf.mono (c_X8_input (n := s_n s) (t := (s_T s).length) hw hR o3 hn hT.1 o1l) ?_
  unfold A_input N_input
  rw [hT.1, hn]
  by_cases z : 24 < (s_T s).length
  · have z2 : (24 : Int32) < nI (s_T s).length := nI_lt (a := 24) z (by omega)
    rw [if_pos z2, if_pos z2, if_pos z, if_pos z]
    exact ⟨rfl, h, loS.rf M, loS.rf J, loS.rf R⟩
  have z2 : ¬ (24 : Int32) < nI (s_T s).length := fun y => z ((nI_ltI (a := 24) (by decide) (by omega)).mp y)
  rw [if_neg z2, if_neg z2, if_neg z, if_neg z]
  by_cases y : s_n s < 30
  rotate_left
  · have y2 : nI (s_n s) = 30 := by rw [show s_n s = 30 by omega]; rfl
    rw [if_pos y2, if_pos y2, if_neg y, if_neg y]
    exact ⟨rfl, h, loS.rf M, loS.rf J, loS.rf R⟩
  have y2 : ¬ nI (s_n s) = 30 := fun q => by
    have := (nI_eq (a := s_n s) (b := 30) (by omega) (by decide)).mp q
    omega
  rw [if_neg y2, if_neg y2, if_pos y, if_pos y, nI_back, nI_p1]
  have hu : ∀ a b, ¬ (a = 134 ∧ (b = 2 ∨ b = 23)) → ¬ (a = 147 ∧ b = s_n s) → a ≠ 146 → up2 (up2 (up2 (f_mem M 146 (24 * s_n s) (fun k => M 135 k &&& 255) (s_T s).length) 147 (s_n s) (nI (s_T s).length)) 134 2 0) 134 23 (nI (s_n s + 1)) a b = M a b := fun a b q1 q2 q3 => by rw [up2_nb (fun z => q1 ⟨z.1, Or.inr z.2⟩), up2_nb (fun z => q1 ⟨z.1, Or.inl z.2⟩), up2_nb q2, f_mem_o _ _ _ q3]
  have h6 : ∀ b, up2 (up2 (up2 (f_mem M 146 (24 * s_n s) (fun k => M 135 k &&& 255) (s_T s).length) 147 (s_n s) (nI (s_T s).length)) 134 2 0) 134 23 (nI (s_n s + 1)) 146 b = if 24 * s_n s ≤ b ∧ b < 24 * s_n s + (s_T s).length then M 135 (b - 24 * s_n s) &&& 255 else M 146 b := fun b => by
    rw [up2_n1 _ _ (by decide), up2_n1 _ _ (by decide), up2_n1 _ _ (by decide)]
    unfold f_mem
    by_cases g : 24 * s_n s ≤ b ∧ b < 24 * s_n s + (s_T s).length
    · rw [if_pos ⟨rfl, g⟩, if_pos g]
    · rw [if_neg (fun z => g z.2), if_neg g]
  have h7 : up2 (up2 (up2 (f_mem M 146 (24 * s_n s) (fun k => M 135 k &&& 255) (s_T s).length) 147 (s_n s) (nI (s_T s).length)) 134 2 0) 134 23 (nI (s_n s + 1)) 147 (s_n s) = nI (s_T s).length := by rw [up2_n1 _ _ (by decide), up2_n1 _ _ (by decide), up2_eq]
  have h2 : up2 (up2 (up2 (f_mem M 146 (24 * s_n s) (fun k => M 135 k &&& 255) (s_T s).length) 147 (s_n s) (nI (s_T s).length)) 134 2 0) 134 23 (nI (s_n s + 1)) 134 2 = 0 := by rw [up2_n2 _ _ (by decide), up2_eq]
  have h23 : up2 (up2 (up2 (f_mem M 146 (24 * s_n s) (fun k => M 135 k &&& 255) (s_T s).length) 147 (s_n s) (nI (s_T s).length)) 134 2 0) 134 23 (nI (s_n s + 1)) 134 23 = nI (s_n s + 1) := up2_eq _ _ _ _
  revert hu h6 h7 h2 h23
  generalize up2 (up2 (up2 (f_mem M 146 (24 * s_n s) (fun k => M 135 k &&& 255) (s_T s).length) 147 (s_n s) (nI (s_T s).length)) 134 2 0) 134 23 (nI (s_n s + 1)) = M5
  intro hu h6 h7 h2 h23
  refine ⟨rfl, ⟨hR, ⟨h2, fun k hk => absurd hk (Nat.not_lt_zero k)⟩, fun k hk => (hP k hk).o (hu 141 k (by omega) (by omega) (by omega)) (fun c y q1 q2 _ => hu c (80 * k + y) (by omega) (by omega) (by omega)), h23, fun i hi => ?_, (hu 134 4 (by omega) (by omega) (by omega)).trans hf1, (hu 134 5 (by omega) (by omega) (by omega)).trans hf2, hrun.o (hu 134 44 (by omega) (by omega) (by omega)) (fun x y q1 q2 => hu x y (by omega) (by omega) (by omega)), hS.o (hu 134 53 (by omega) (by omega) (by omega)) (fun y => hu 163 y (by omega) (by omega) (by omega)) (fun y => hu 164 y (by omega) (by omega) (by omega))⟩, fun x y q => hu x y (by omega) (by omega) (by omega), loS.rf J, loS.rf R⟩
  have hi : i < s_n s + 1 := hi
  show inAtM M5 i (if i = s_n s then s_T s else s_I s i)
  by_cases g : i = s_n s
  · rw [if_pos g, g]
    refine ⟨h7, fun k hk => ?_⟩
    rw [h6, if_pos (by omega), show 24 * s_n s + k - 24 * s_n s = k by omega]
    exact hT.2 k hk
  · rw [if_neg g]
    have hl := (o4 i (by omega)).1
    refine ⟨(hu 147 i (by omega) (by omega) (by omega)).trans (hI i (by omega)).1, fun k hk => ?_⟩
    rw [h6, if_neg (by omega)]
    exact (hI i (by omega)).2 k hk

def A_program (s : aSt) (a : Int32) : Int32 := if isSh a = 0 then -2 else if (PARSE (s_T s)).1 = 0 then nI (PARSE (s_T s)).2.2.length else -1
def n_prog (s : aSt) (j : Nat) (Q : Int32 × Int32 × List act4) : aSt := ([], if Q.1 = 0 then (fun k => if k = j then Q.2.2 else s_P s k) else s_P s, s_n s, s_I s, (Q.1, Q.2.1), s_r s, s_s s)
def N_program (s : aSt) (a : Int32) : aSt := if isSh a = 0 then s else n_prog s a.toNatClampNeg (PARSE (s_T s))
theorem isP4.d {p q : Nat} (hp : isP4 p) (hq : isP4 q) (h : p ≠ q) : ∀ a, p ≤ a → a ≤ p + 4 → ¬ (q ≤ a ∧ a ≤ q + 4) := fun a a1 a2 => by
  rcases hp with hp | hp | hp | hp <;> rcases hq with hq | hq | hq | hq <;> omega
theorem isP4.g {p : Nat} (hp : isP4 p) : 13 < p := by rcases hp with hp | hp | hp | hp <;> omega
theorem isP4.s {p a : Nat} (hp : isP4 p) (a1 : p ≤ a) (a2 : a ≤ p + 4) : (14 ≤ a ∧ a ≤ 18) ∨ (59 ≤ a ∧ a ≤ 73) := by rcases hp with hp | hp | hp | hp <;> omega
/-- program, of the class: what is left -/
theorem prog_C {M M' : Nat → Nat → Int32} {J J' : Nat → Nat → Int64} {R R' : Nat → Nat → Option Nat} {s : aSt} (h : repC M J R s) {π : Nat → Nat} {ip j : Nat} (hsh : shC M R (s_P s) π ip) (hj : j < 3) {Q : Int32 × Int32 × List act4} (q1 : R' = (if Q.1 = 0 then up2 (up2 R 4 8 (some (π j))) 3 j (some ip) else R)) (q2 : M' 4 9 = Q.1 ∧ M' 4 10 = Q.2.1 ∧ (Q.1 = 0 → progIs M' ip Q.2.2)) (q3 : M' 1 1 = 0) (q4 : ∀ x y, ¬ (x = 4 ∧ 6 ≤ y) → ¬ (x = 5 ∧ y = 3) → ¬ x = 6 → ¬ x = 7 → ¬ x = 11 → ¬ x = 13 → ¬ (ip ≤ x ∧ x ≤ ip + 4) → ¬ (x = 1 ∧ y = 1) → M' x y = M x y) (q5 : qJ2 J J') (hn : s_n s ≤ 30) : repC M' J' R' (n_prog s j Q) ∧ hiS M M' ∧ hiS J J' ∧ hiS R R' := by
  obtain ⟨hR, -, hT, hn, hI, hf1, hf2, hnm, hrun, hS, hW⟩ := h
  obtain ⟨s1, s2, s3, s4⟩ := hsh
  have ne : ∀ x y, ¬ (4 ≤ x ∧ x ≤ 18) → ¬ (59 ≤ x ∧ x ≤ 73) → ¬ (x = 1 ∧ y = 1) → M' x y = M x y := fun x y z1 z2 z3 => q4 x y (by omega) (by omega) (by omega) (by omega) (by omega) (by omega) (fun z => by rcases s4.s z.1 z.2 with y | y <;> omega) z3
  have nsh : ∀ k, k < 3 → progIs M' (π k) (s_P s k) := fun k hk => (s1 k hk).2.2.2.o (fun a b z1 z2 => by
    have hg := (s1 k hk).2.1.g
    have hd := (s1 k hk).2.1.d s4 (s1 k hk).2.2.1 a z1 z2
    exact q4 a b (by omega) (by omega) (by omega) (by omega) (by omega) (by omega) hd (by omega))
  have hI2 : ∀ i, i < s_n s → rowIs M' (74 + 2 * i) (s_I s i) := fun i hi => (hI i hi).o (fun a b z1 z2 => ne a b (by omega) (by omega) (by omega))
  have rest : rowIs M' 1 [] ∧ M' 0 9 = nI (s_n s) ∧ namC J' ∧ runC M' (s_r s) ∧ rowIs M' 43 (s_s s).1 ∧ rowIs M' 45 (s_s s).2 := ⟨⟨Nat.zero_le _, q3, fun k hk => absurd hk (Nat.not_lt_zero k)⟩, (ne 0 9 (by omega) (by omega) (by omega)).trans hn, fun k hk => (q5 9 k (by decide) (by decide) (by decide)).trans (hnm k hk), hrun.o (ne 0 10 (by omega) (by omega) (by omega)) (fun x y z1 z2 => ne x y (by omega) (by omega) (by omega)), hS.o (fun a b z1 z2 => ne a b (by omega) (by omega) (by omega)), hW.o (fun a b z1 z2 => ne a b (by omega) (by omega) (by omega))⟩
  refine ⟨?_, fun x y z => ne x y (by omega) (by omega) (by omega), fun x y z => q5 x y (by omega) (by omega) (by omega), fun x y z => ?_⟩
  rotate_left
  · rw [q1]
    split
    · rw [up2_n1 _ _ (by omega), up2_n1 _ _ (by omega)]
    · rfl
  unfold n_prog
  by_cases z : Q.1 = 0
  · rw [if_pos z] at q1 ⊢
    refine ⟨?_, ⟨fun k => if k = j then ip else π k, π j, fun k hk => ?_, fun k k' hk hk' e => ?_, ?_, (s1 j hj).2.1⟩, rest.1, rest.2.1, hI2, q2.1, q2.2.1, rest.2.2.1, rest.2.2.2.1, rest.2.2.2.2.1, rest.2.2.2.2.2⟩
    · rw [q1]
      exact hR.o (fun x y y1 y2 y3 => by rw [up2_n1 _ _ y2, up2_nb y3])
    · rw [q1]
      by_cases g : k = j
      · subst g
        dsimp only
        rw [if_pos rfl]
        exact ⟨up2_eq _ _ _ _, s4, fun y => (s1 k hk).2.2.1 y.symm, by show progIs M' ip (if k = k then Q.2.2 else s_P s k); rw [if_pos rfl]; exact q2.2.2 z⟩
      · dsimp only
        rw [if_neg g]
        refine ⟨?_, (s1 k hk).2.1, fun y => g (s2 k j hk hj y), by show progIs M' (π k) (if k = j then Q.2.2 else s_P s k); rw [if_neg g]; exact nsh k hk⟩
        rw [up2_n2 _ _ g, up2_n1 _ _ (by decide)]; exact (s1 k hk).1
    · dsimp only at e
      by_cases g : k = j
      · rw [if_pos g] at e
        by_cases g2 : k' = j
        · omega
        · rw [if_neg g2] at e; exact absurd e.symm (s1 k' hk').2.2.1
      · rw [if_neg g] at e
        by_cases g2 : k' = j
        · rw [if_pos g2] at e; exact absurd e (s1 k hk).2.2.1
        · rw [if_neg g2] at e; exact s2 k k' hk hk' e
    · rw [q1, up2_n1 _ _ (by decide), up2_eq]
  · rw [if_neg z] at q1 ⊢
    rw [q1]
    exact ⟨hR, ⟨π, ip, fun k hk => ⟨(s1 k hk).1, (s1 k hk).2.1, (s1 k hk).2.2.1, nsh k hk⟩, s2, s3, s4⟩, rest.1, rest.2.1, hI2, q2.1, q2.2.1, rest.2.2.1, rest.2.2.2.1, rest.2.2.2.2.1, rest.2.2.2.2.2⟩
theorem prog_M {M M' : Nat → Nat → Int32} {J J' : Nat → Nat → Int64} {R : Nat → Nat → Option Nat} {s : aSt} (h : repM M J R s) {j : Nat} (hj : j < 3) {Q : Int32 × Int32 × List act4} (q : M' 134 4 = Q.1 ∧ M' 134 5 = Q.2.1 ∧ M' 134 2 = 0 ∧ (Q.1 = 0 → progN M' j Q.2.2 ∧ ∀ x y, ¬ (x = 134 ∧ (2 ≤ y ∧ y ≤ 9 ∨ y = 20)) → ¬ x = 136 → ¬ x = 142 → ¬ x = 143 → ¬ (137 ≤ x ∧ x ≤ 140 ∧ (240 ≤ y ∨ (80 * j ≤ y ∧ y < 80 * j + 80))) → ¬ (x = 141 ∧ (y = 3 ∨ y = j)) → M' x y = M x y) ∧ (¬ Q.1 = 0 → gF M M')) (q5 : mJ J J') : repM M' J' R (n_prog s j Q) ∧ loS M M' ∧ loS J J' ∧ loS R R := by
  obtain ⟨hR, hT, hP, hn, hI, hf1, hf2, hrun, hS⟩ := h
  obtain ⟨q1, q2, q3, q4, q6⟩ := q
  have ne : ∀ x y, ¬ (x = 134 ∧ (2 ≤ y ∧ y ≤ 9 ∨ y = 20)) → ¬ (136 ≤ x ∧ x ≤ 143) → M' x y = M x y := fun x y z1 z2 => by
    by_cases z : Q.1 = 0
    · exact (q4 z).2 x y z1 (by omega) (by omega) (by omega) (by omega) (by omega)
    · exact q6 z x y z1 (by omega) (by omega) (by omega) (by omega) (by omega)
  refine ⟨⟨hR, ⟨q3, fun k hk => absurd hk (Nat.not_lt_zero k)⟩, fun k hk => ?_, (ne 134 23 (by omega) (by omega)).trans hn, fun i hi => (hI i hi).o (fun y => ne 147 y (by omega) (by omega)) (fun y => ne 146 y (by omega) (by omega)), q1, q2, hrun.o (ne 134 44 (by omega) (by omega)) (fun x y z1 z2 => ne x y (by omega) (by omega)), hS.o (ne 134 53 (by omega) (by omega)) (fun y => ne 163 y (by omega) (by omega)) (fun y => ne 164 y (by omega) (by omega))⟩, fun x y z => ne x y (by omega) (by omega), fun x y z => q5 x y (by omega) (by omega) (by omega), loS.rf R⟩
  show progN M' k ((if Q.1 = 0 then (fun k => if k = j then Q.2.2 else s_P s k) else s_P s) k)
  by_cases z : Q.1 = 0
  · rw [if_pos z]
    by_cases g : k = j
    · subst g; rw [if_pos rfl]; exact (q4 z).1
    · rw [if_neg g]
      exact (hP k hk).o ((q4 z).2 141 k (by omega) (by omega) (by omega) (by omega) (by omega) (by omega)) (fun c y z1 z2 z3 => (q4 z).2 c (80 * k + y) (by omega) (by omega) (by omega) (by omega) (by omega) (by omega))
  · rw [if_neg z]
    exact (hP k hk).o (q6 z 141 k (by omega) (by omega) (by omega) (by omega) (by omega) (by omega)) (fun c y z1 z2 z3 => q6 z c (80 * k + y) (by omega) (by omega) (by omega) (by omega) (by omega) (by omega))

theorem C7_program {l : Launch} {D : va_G} {w : gw} {M : Nat → Nat → Int32} {J : Nat → Nat → Int64} {R : Nat → Nat → Option Nat} {s : aSt} (hw : w.1 = 166) (ho : okSt s) (h : repC M J R s) {a : Int32} : Ct l yX7_program wsX7_program ({ frames := 6, cells := 0, slots := 0, locals := 130 } : Room) D w [.ref (w.2.1 0), .int a] (M, J, R) (pstC M J R (N_program s a) (A_program s a)) := by
  obtain ⟨hR, ⟨π, ip, hsh⟩, hT, hn, hI, hf1, hf2, hnm, hrun, hS, hW⟩ := id h
  obtain ⟨o1, o2, o3, o4, o5, o6⟩ := id ho
  by_cases za : isSh a = 0
  · exact Cf.mono (c_X7_program_no hw hR za) ⟨congrArg (fun z => some (Value.int z)) (show (-2 : Int32) = A_program s a by unfold A_program; rw [if_pos za]), by unfold N_program; rw [if_pos za]; exact h, hiS.rf M, hiS.rf J, hiS.rf R⟩
  obtain ⟨j, hj, e⟩ := sh_nat za
  subst e
  refine Ct.mono (c_X7_program (π := π) hw hR (hsh.hS hw hR) (hsh.2.2.2.prog hw hR) hsh.2.2.1 hsh.2.2.2.g o1 hT hnm hj) (fun v u z => ?_)
  obtain ⟨z1, z2, z3, z4, z5, z6⟩ := z
  have eN : N_program s (nI j) = n_prog s j (PARSE (s_T s)) := by unfold N_program; rw [if_neg za, nI_clamp (by omega)]
  have eA : A_program s (nI j) = if (PARSE (s_T s)).1 = 0 then nI (PARSE (s_T s)).2.2.length else -1 := by unfold A_program; rw [if_neg za]
  unfold pstC
  rw [eN, eA]
  unfold parP at z3
  revert z1 z2 z3
  generalize PARSE (s_T s) = Q
  intro z1 z2 z3
  exact ⟨z1, prog_C h hsh hj z2 z3 z4 z5 z6 o3⟩

theorem C8_program {l : Launch} {D : va_G} {w : gw} {M : Nat → Nat → Int32} {J : Nat → Nat → Int64} {R : Nat → Nat → Option Nat} {s : aSt} (hw : w.1 = 166) (ho : okSt s) (h : repM M J R s) {a : Int32} : Ct l yX8_program wsX8_program ({ frames := 6, cells := 0, slots := 0, locals := 129 } : Room) D w [.ref (w.2.1 134), .int a] (M, J, R) (postM M J R (N_program s a) (A_program s a)) := by
  obtain ⟨hR, hT, hP, hn, hI, hf1, hf2, hrun, hS⟩ := id h
  obtain ⟨o1, o2, o3, o4, o5, o6⟩ := id ho
  by_cases za : isSh a = 0
  · exact Cf.mono (c_X8_program_no hw hR za) ⟨congrArg (fun z => some (Value.int z)) (show (-2 : Int32) = A_program s a by unfold A_program; rw [if_pos za]), by unfold N_program; rw [if_pos za]; exact h, loS.rf M, loS.rf J, loS.rf R⟩
  obtain ⟨j, hj, e⟩ := sh_nat za
  subst e
  refine Ct.mono (c_X8_program hw hR o1 hT hj) (fun v u z => ?_)
  obtain ⟨z1, z2, z3, z4⟩ := z
  have eN : N_program s (nI j) = n_prog s j (PARSE (s_T s)) := by unfold N_program; rw [if_neg za, nI_clamp (by omega)]
  have eA : A_program s (nI j) = if (PARSE (s_T s)).1 = 0 then nI (PARSE (s_T s)).2.2.length else -1 := by unfold A_program; rw [if_neg za]
  unfold postM
  rw [eN, eA, z2]
  unfold proP at z3
  revert z1 z3
  generalize PARSE (s_T s) = Q
  intro z1 z3
  exact ⟨z1, prog_M h hj z3 z4⟩

def w_r (s : aSt) (K : Nat → Nat → Int32) : aSt := (s_T s, s_P s, s_n s, s_I s, s_f s, some K, s_s s)
def N_run (s : aSt) (a i : Int32) : aSt := if isSh a = 0 then s else if isIn (nI (s_n s)) i = 0 then s else w_r s (RUN (s_P s a.toNatClampNeg) (s_I s i.toNatClampNeg))
theorem N_run_no {s : aSt} {a i : Int32} (h : isSh a = 0 ∨ isIn (nI (s_n s)) i = 0) : N_run s a i = s := by
  unfold N_run
  by_cases z : isSh a = 0
  · rw [if_pos z]
  · rw [if_neg z, if_pos (h.resolve_left z)]
theorem N_run_ok {s : aSt} {a i : Nat} (ha : ¬ isSh (nI a) = 0) (hi : ¬ isIn (nI (s_n s)) (nI i) = 0) (ha2 : a < 3) (hi2 : i < 2 ^ 31) : N_run s (nI a) (nI i) = w_r s (RUN (s_P s a) (s_I s i)) := by
  unfold N_run
  rw [if_neg ha, if_neg hi, nI_clamp (by omega), nI_clamp hi2]
abbrev R7 : List act4 → List Int32 → Int32 := fun P I => RUN P I 0 7

theorem C7_run {l : Launch} {D : va_G} {w : gw} {M : Nat → Nat → Int32} {J : Nat → Nat → Int64} {R : Nat → Nat → Option Nat} {s : aSt} (hw : w.1 = 166) (ho : okSt s) (h : repC M J R s) {a i : Int32} : Ct l yX7_run wsX7_run ({ frames := 4, cells := 0, slots := 0, locals := 97 } : Room) D w [.ref (w.2.1 0), .int a, .int i] (M, J, R) (pstC M J R (N_run s a i) (A_2 s a i R7)) := by
  obtain ⟨hR, ⟨π, ip, hsh⟩, hT, hn, hI, hf1, hf2, hnm, hrun, hS, hW⟩ := id h
  obtain ⟨o1, o2, o3, o4, o5, o6⟩ := id ho
  have hO : ∀ k, k < 3 → okP M (π k) := fun k hk => okP_of (hsh.1 k hk).2.2.2 (o2 k hk).1
  refine Cf.mono (c_X7_run (π := π) (n := s_n s) hw hR (hsh.hS hw hR) hO o3 hn) ?_
  rw [hn]
  by_cases za : isSh a = 0
  · rw [if_pos za, if_pos za, A2_no (Or.inl za), N_run_no (Or.inl za)]
    exact ⟨rfl, h, hiS.rf M, hiS.rf J, hiS.rf R⟩
  rw [if_neg za, if_neg za]
  by_cases zi : isIn (nI (s_n s)) i = 0
  · rw [if_pos zi, if_pos zi, A2_no (Or.inr zi), N_run_no (Or.inr zi)]
    exact ⟨rfl, h, hiS.rf M, hiS.rf J, hiS.rf R⟩
  rw [if_neg zi, if_neg zi]
  obtain ⟨j, hj, e⟩ := sh_nat za
  obtain ⟨k, hk, e2, hk2⟩ := in_nat zi
  subst e; subst e2
  rw [A2_ok (f := R7) za zi hj hk2, N_run_ok za zi hj hk2, nI_clamp (show j < 2 ^ 31 by omega), nI_clamp hk2]
  have hq := run_is (mach_20 hw hR) ((hsh.1 j hj).2.1.prog hw hR) (row_in hw hR (show k < 30 by omega)).2 (hsh.1 j hj).2.2.2 (hI k hk) (o2 j hj).1
  have hu : ∀ a b, ¬ (20 ≤ a ∧ a ≤ 24) → ¬ (a = 0 ∧ b = 10) → up2 (m_run M 20 (π j) (74 + 2 * k)) 0 10 1 a b = M a b := fun a b q1 q2 => by rw [up2_nb q2, m_run_out (by omega)]
  have h10 : up2 (m_run M 20 (π j) (74 + 2 * k)) 0 10 1 0 10 = 1 := up2_eq _ _ _ _
  have hwin : ∀ a b, win (up2 (m_run M 20 (π j) (74 + 2 * k)) 0 10 1) 20 a b = win (m_run M 20 (π j) (74 + 2 * k)) 20 a b := fun a b => up2_n1 _ _ (by omega)
  have hK : Qk (win (up2 (m_run M 20 (π j) (74 + 2 * k)) 0 10 1) 20) (RUN (s_P s j) (s_I s k)) := ⟨fun b q1 q2 => by rw [hwin]; exact hq.1 b q1 (by omega), fun a b q1 q2 q3 => by rw [hwin]; exact hq.2.1 a b q1 q2 q3, fun b q1 q2 => by rw [hwin] at q2 ⊢; exact hq.2.2 b q1 q2⟩
  have h7 : m_run M 20 (π j) (74 + 2 * k) 20 7 = RUN (s_P s j) (s_I s k) 0 7 := hq.1 7 (by decide) (by decide)
  rw [h7]
  revert hu h10 hK
  generalize up2 (m_run M 20 (π j) (74 + 2 * k)) 0 10 1 = M5
  intro hu h10 hK
  obtain ⟨s1, s2, s3, s4⟩ := hsh
  exact ⟨rfl, ⟨hR, ⟨π, ip, fun k hk => ⟨(s1 k hk).1, (s1 k hk).2.1, (s1 k hk).2.2.1, (s1 k hk).2.2.2.o (fun a b q1 q2 => hu a b (by rcases (s1 k hk).2.1.s q1 q2 with y | y <;> omega) (by rcases (s1 k hk).2.1.s q1 q2 with y | y <;> omega))⟩, s2, s3, s4⟩, hT.o (fun a b q1 q2 => hu a b (by omega) (by omega)), (hu 0 9 (by omega) (by omega)).trans hn, fun i hi => (hI i hi).o (fun a b q1 q2 => hu a b (by omega) (by omega)), (hu 4 9 (by omega) (by omega)).trans hf1, (hu 4 10 (by omega) (by omega)).trans hf2, hnm, ⟨h10, hK⟩, hS.o (fun a b q1 q2 => hu a b (by omega) (by omega)), hW.o (fun a b q1 q2 => hu a b (by omega) (by omega))⟩, fun x y q => hu x y (by omega) (by omega), hiS.rf J, hiS.rf R⟩

theorem C8_run {l : Launch} {D : va_G} {w : gw} {M : Nat → Nat → Int32} {J : Nat → Nat → Int64} {R : Nat → Nat → Option Nat} {s : aSt} (hw : w.1 = 166) (ho : okSt s) (h : repM M J R s) {a i : Int32} : Ct l yX8_run wsX8_run ({ frames := 3, cells := 0, slots := 0, locals := 75 } : Room) D w [.ref (w.2.1 134), .int a, .int i] (M, J, R) (postM M J R (N_run s a i) (A_2 s a i R7)) := by
  obtain ⟨hR, hT, hP, hn, hI, hf1, hf2, hrun, hS⟩ := id h
  obtain ⟨o1, o2, o3, o4, o5, o6⟩ := id ho
  by_cases za : isSh a = 0
  · rw [A2_no (Or.inl za), N_run_no (Or.inl za)]
    exact Cf.mono (c_X8_run_no hw hR (Or.inl za)) ⟨rfl, h, loS.rf M, loS.rf J, loS.rf R⟩
  by_cases zi : isIn (nI (s_n s)) i = 0
  · rw [A2_no (Or.inr zi), N_run_no (Or.inr zi)]
    exact Cf.mono (c_X8_run_no hw hR (Or.inr (by rw [hn]; exact zi))) ⟨rfl, h, loS.rf M, loS.rf J, loS.rf R⟩
  obtain ⟨j, hj, e⟩ := sh_nat za
  obtain ⟨k, hk, e2, hk2⟩ := in_nat zi
  subst e; subst e2
  rw [A2_ok (f := R7) za zi hj hk2, N_run_ok za zi hj hk2]
  refine Ct.mono (c_X8_run hw hR hj (hP j hj) (o2 j hj) o3 hn hk (hI k hk) (o4 k hk)) (fun v u z => ?_)
  obtain ⟨z1, z2, z3, z4, z5, z6⟩ := z
  refine ⟨z1, ⟨by rw [z3]; exact hR, hT.o (z6 134 2 (by omega) (by omega) (by omega)) (fun y => z6 135 y (by omega) (by omega) (by omega)), fun k hk => (hP k hk).o (z6 141 k (by omega) (by omega) (by omega)) (fun c y q1 q2 _ => z6 c (80 * k + y) (by omega) (by omega) (by omega)), (z6 134 23 (by omega) (by omega) (by omega)).trans hn, fun i hi => (hI i hi).o (fun y => z6 147 y (by omega) (by omega) (by omega)) (fun y => z6 146 y (by omega) (by omega) (by omega)), (z6 134 4 (by omega) (by omega) (by omega)).trans hf1, (z6 134 5 (by omega) (by omega) (by omega)).trans hf2, ⟨z5, z4⟩, hS.o (z6 134 53 (by omega) (by omega) (by omega)) (fun y => z6 163 y (by omega) (by omega) (by omega)) (fun y => z6 164 y (by omega) (by omega) (by omega))⟩, fun x y q => z6 x y (by omega) (by omega) (by omega), fun x y _ => by rw [z2], fun x y _ => by rw [z3]⟩

def SMA (P : List act4) (I : List Int32) : Int32 := if RUN P I 0 8 = -1 then -1 else nI (SMALL P I).length
def w_s (s : aSt) (p : List Int32 × List Int32) : aSt := (s_T s, s_P s, s_n s, s_I s, s_f s, s_r s, p)
def n_small (s : aSt) (P : List act4) (I : List Int32) : aSt := if RUN P I 0 8 = -1 then s else w_s s (SMALL P I, LOWL P I)
def N_small (s : aSt) (a i : Int32) : aSt := if isSh a = 0 then s else if isIn (nI (s_n s)) i = 0 then s else n_small s (s_P s a.toNatClampNeg) (s_I s i.toNatClampNeg)
theorem N_small_no {s : aSt} {a i : Int32} (h : isSh a = 0 ∨ isIn (nI (s_n s)) i = 0) : N_small s a i = s := by
  unfold N_small
  by_cases z : isSh a = 0
  · rw [if_pos z]
  · rw [if_neg z, if_pos (h.resolve_left z)]
theorem N_small_ok {s : aSt} {a i : Nat} (ha : ¬ isSh (nI a) = 0) (hi : ¬ isIn (nI (s_n s)) (nI i) = 0) (ha2 : a < 3) (hi2 : i < 2 ^ 31) : N_small s (nI a) (nI i) = n_small s (s_P s a) (s_I s i) := by
  unfold N_small
  rw [if_neg ha, if_neg hi, nI_clamp (by omega), nI_clamp hi2]

theorem C7_small {l : Launch} {D : va_G} {w : gw} {M : Nat → Nat → Int32} {J : Nat → Nat → Int64} {R : Nat → Nat → Option Nat} {s : aSt} (hw : w.1 = 166) (ho : okSt s) (h : repC M J R s) {a i : Int32} : Ct l yX7_small wsX7_small ({ frames := 6, cells := 0, slots := 0, locals := 145 } : Room) D w [.ref (w.2.1 0), .int a, .int i] (M, J, R) (pstC M J R (N_small s a i) (A_2 s a i SMA)) := by
  obtain ⟨hR, ⟨π, ip, hsh⟩, hT, hn, hI, hf1, hf2, hnm, hrun, hS, hW⟩ := id h
  obtain ⟨o1, o2, o3, o4, o5, o6⟩ := id ho
  by_cases za : isSh a = 0
  · rw [A2_no (Or.inl za), N_small_no (Or.inl za)]
    exact Cf.mono (c_X7_small_no hw hR (Or.inl za)) ⟨rfl, h, hiS.rf M, hiS.rf J, hiS.rf R⟩
  by_cases zi : isIn (nI (s_n s)) i = 0
  · rw [A2_no (Or.inr zi), N_small_no (Or.inr zi)]
    exact Cf.mono (c_X7_small_no hw hR (Or.inr (by rw [hn]; exact zi))) ⟨rfl, h, hiS.rf M, hiS.rf J, hiS.rf R⟩
  obtain ⟨j, hj, e⟩ := sh_nat za
  obtain ⟨k, hk, e2, hk2⟩ := in_nat zi
  subst e; subst e2
  rw [A2_ok (f := SMA) za zi hj hk2, N_small_ok za zi hj hk2]
  refine Ct.mono (c_X7_small (π := π) hw hR (hsh.hS hw hR) hj o3 hn hk (hsh.1 j hj).2.1.b (hsh.1 j hj).2.2.2 (o2 j hj).1 (hI k hk) (o4 k hk)) (fun v u z => ?_)
  obtain ⟨z1, z2, z3, z4, z5, z6⟩ := z
  refine ⟨z1, ?_, fun x y q => z4 x y (by omega), fun x y _ => by rw [z2], fun x y _ => by rw [z3]⟩
  unfold n_small
  by_cases g : RUN (s_P s j) (s_I s k) 0 8 = -1
  · rw [if_pos g]
    exact h.f (fun x y q1 q2 q3 => z6 g x y (by omega)) (fun y => by rw [z2]) (fun x y _ => by rw [z3]) o3
  · rw [if_neg g]
    obtain ⟨g1, g2⟩ := z5 g
    rw [z2, z3]
    obtain ⟨s1, s2, s3, s4⟩ := hsh
    exact ⟨hR, ⟨π, ip, fun k hk => ⟨(s1 k hk).1, (s1 k hk).2.1, (s1 k hk).2.2.1, (s1 k hk).2.2.2.o (fun a b q1 q2 => z4 a b (by rcases (s1 k hk).2.1.s q1 q2 with y | y <;> omega))⟩, s2, s3, s4⟩, hT.o (fun a b q1 q2 => z4 a b (by omega)), (z4 0 9 (by omega)).trans hn, fun i hi => (hI i hi).o (fun a b q1 q2 => z4 a b (by omega)), (z4 4 9 (by omega)).trans hf1, (z4 4 10 (by omega)).trans hf2, hnm, hrun.o (z4 0 10 (by omega)) (fun x y q1 q2 => z4 x y (by omega)), g1, g2⟩

theorem C8_small {l : Launch} {D : va_G} {w : gw} {M : Nat → Nat → Int32} {J : Nat → Nat → Int64} {R : Nat → Nat → Option Nat} {s : aSt} (hw : w.1 = 166) (ho : okSt s) (h : repM M J R s) {a i : Int32} : Ct l yX8_small wsX8_small ({ frames := 5, cells := 0, slots := 0, locals := 120 } : Room) D w [.ref (w.2.1 134), .int a, .int i] (M, J, R) (postM M J R (N_small s a i) (A_2 s a i SMA)) := by
  obtain ⟨hR, hT, hP, hn, hI, hf1, hf2, hrun, hS⟩ := id h
  obtain ⟨o1, o2, o3, o4, o5, o6⟩ := id ho
  by_cases za : isSh a = 0
  · rw [A2_no (Or.inl za), N_small_no (Or.inl za)]
    exact Cf.mono (c_X8_small_no hw hR (Or.inl za)) ⟨rfl, h, loS.rf M, loS.rf J, loS.rf R⟩
  by_cases zi : isIn (nI (s_n s)) i = 0
  · rw [A2_no (Or.inr zi), N_small_no (Or.inr zi)]
    exact Cf.mono (c_X8_small_no hw hR (Or.inr (by rw [hn]; exact zi))) ⟨rfl, h, loS.rf M, loS.rf J, loS.rf R⟩
  obtain ⟨j, hj, e⟩ := sh_nat za
  obtain ⟨k, hk, e2, hk2⟩ := in_nat zi
  subst e; subst e2
  rw [A2_ok (f := SMA) za zi hj hk2, N_small_ok za zi hj hk2]
  refine Ct.mono (c_X8_small hw hR hj o3 hn hk (hP j hj) (o2 j hj) (hI k hk) (o4 k hk)) (fun v u z => ?_)
  obtain ⟨z1, z2, z3, z4, z5, z6⟩ := z
  refine ⟨z1, ?_, fun x y q => z4 x y (by omega) (by omega) (by omega) (by omega), fun x y _ => by rw [z2], fun x y _ => by rw [z3]⟩
  unfold n_small
  by_cases g : RUN (s_P s j) (s_I s k) 0 8 = -1
  · rw [if_pos g]
    exact h.f (fun x y q1 q2 q3 q4 q5 => z6 g x y (by omega) (by omega)) (fun x y _ => by rw [z3])
  · rw [if_neg g]
    obtain ⟨g1, g2, g3⟩ := z5 g
    have ne : ∀ x y, ¬ (x = 134 ∧ (29 ≤ y ∧ y ≤ 38 ∨ 53 ≤ y ∧ y ≤ 56)) → ¬ (148 ≤ x ∧ x ≤ 152) → x ≠ 163 → x ≠ 164 → u.1 x y = M x y := z4
    exact ⟨by rw [z3]; exact hR, hT.o (ne 134 2 (by omega) (by omega) (by omega) (by omega)) (fun y => ne 135 y (by omega) (by omega) (by omega) (by omega)), fun k hk => (hP k hk).o (ne 141 k (by omega) (by omega) (by omega) (by omega)) (fun c y q1 q2 _ => ne c (80 * k + y) (by omega) (by omega) (by omega) (by omega)), (ne 134 23 (by omega) (by omega) (by omega) (by omega)).trans hn, fun i hi => (hI i hi).o (fun y => ne 147 y (by omega) (by omega) (by omega) (by omega)) (fun y => ne 146 y (by omega) (by omega) (by omega) (by omega)), (ne 134 4 (by omega) (by omega) (by omega) (by omega)).trans hf1, (ne 134 5 (by omega) (by omega) (by omega) (by omega)).trans hf2, hrun.o (ne 134 44 (by omega) (by omega) (by omega) (by omega)) (fun x y q1 q2 => ne x y (by omega) (by omega) (by omega) (by omega)), Or.inr ⟨g1, fun x hx => ⟨g2 x hx, g3 x hx⟩⟩⟩

theorem and255 (x : Int32) : ¬ (x &&& 255) < 0 ∧ (x &&& 255) < 256 := by
  have e : x &&& 255 = nI (x.toBitVec.toNat % 256) := by
    apply Int32.toBitVec.inj
    apply BitVec.eq_of_toNat_eq
    show (x.toBitVec &&& 255#32).toNat = (BitVec.ofNat 32 (x.toBitVec.toNat % 256)).toNat
    rw [BitVec.toNat_and, show (255#32).toNat = 2 ^ 8 - 1 from rfl, Nat.and_two_pow_sub_one_eq_mod, BitVec.toNat_ofNat]
    omega
  rw [e]
  exact ⟨nI_pos (by omega), nI_lt (b := 256) (by omega) (by decide)⟩
theorem by20_ok (a b c d e : Int32) : ∀ x ∈ by20 a b c d e, ¬ x < 0 ∧ x < 256 := by
  intro x hx
  simp only [by20, by4, List.mem_append, List.mem_cons, List.not_mem_nil, or_false] at hx
  rcases hx with (h | h | h | h) | (h | h | h | h) | (h | h | h | h) | (h | h | h | h) | (h | h | h | h) <;> (rw [h]; exact and255 _)
theorem okX_app {T B : List Int32} (h : okX T) (hl : T.length + B.length ≤ 1000) (hB : ∀ x ∈ B, ¬ x < 0 ∧ x < 256) : okX (T ++ B) := by
  refine ⟨by rw [List.length_append]; exact hl, fun k hk => ?_⟩
  rw [List.length_append] at hk
  by_cases g : k < T.length
  · rw [app_lt g]; exact h.2 k g
  · rw [app_ge (by omega)]
    have hlt : k - T.length < B.length := by omega
    have : B.getD (k - T.length) 0 = B[k - T.length] := by simp [List.getD, List.getElem?_eq_getElem hlt]
    rw [this]
    exact hB _ (List.getElem_mem hlt)
theorem ok_T {s : aSt} (h : okSt s) {T : List Int32} (hT : okX T) : okSt (w_T s T) := ⟨hT, h.2⟩
theorem ok_end {s : aSt} (h : okSt s) (n : Int32) : okSt (N_end s n) := by
  unfold N_end
  split
  · exact h
  · split
    · refine ok_T h ⟨?_, fun k hk => ?_⟩
      · rw [List.length_take]; have := h.1.1; omega
      · rw [List.length_take] at hk
        rw [take_getD (by omega)]; exact h.1.2 k (by omega)
    · exact h
theorem ok_feed {s : aSt} (h : okSt s) (a b c d e : Int32) : okSt (N_feed s a b c d e) := by
  unfold N_feed
  split
  · rename_i g
    exact ok_T h (okX_app h.1 (by rw [by20_len]; exact g) (by20_ok a b c d e))
  · exact h
theorem ok_drop {s : aSt} (h : okSt s) : okSt (N_drop s) := ⟨h.1, h.2.1, by show s_n s - 1 ≤ 30; have := h.2.2.1; omega, fun i hi => h.2.2.2.1 i (by have hi : i < s_n s - 1 := hi; omega), h.2.2.2.2⟩
theorem ok_input {s : aSt} (h : okSt s) : okSt (N_input s) := by
  unfold N_input
  split
  · exact h
  · rename_i g
    split
    · rename_i g2
      refine ⟨⟨Nat.zero_le _, fun k hk => absurd hk (Nat.not_lt_zero k)⟩, h.2.1, by show s_n s + 1 ≤ 30; omega, fun i hi => ?_, h.2.2.2.2⟩
      have hi : i < s_n s + 1 := hi
      show okI (if i = s_n s then s_T s else s_I s i)
      split
      · exact ⟨by omega, fun k hk => h.1.2 k hk⟩
      · exact h.2.2.2.1 i (by omega)
    · exact h
theorem ok_program {s : aSt} (h : okSt s) (a : Int32) : okSt (N_program s a) := by
  unfold N_program
  split
  · exact h
  · have hq := PARSE_ok (s_T s)
    revert hq
    generalize PARSE (s_T s) = Q
    intro hq
    refine ⟨⟨Nat.zero_le _, fun k hk => absurd hk (Nat.not_lt_zero k)⟩, fun k hk => ?_, h.2.2⟩
    show okL2 ((if Q.1 = 0 then (fun k => if k = a.toNatClampNeg then Q.2.2 else s_P s k) else s_P s) k)
    split
    · rename_i z
      dsimp only
      split
      · exact hq z
      · exact h.2.1 k hk
    · exact h.2.1 k hk
theorem ok_run {s : aSt} (h : okSt s) (a i : Int32) : okSt (N_run s a i) := by
  unfold N_run
  split
  · exact h
  · split
    · exact h
    · exact h
theorem ok_small {s : aSt} (h : okSt s) (a i : Int32) : okSt (N_small s a i) := by
  by_cases za : isSh a = 0
  · rw [N_small_no (Or.inl za)]; exact h
  by_cases zi : isIn (nI (s_n s)) i = 0
  · rw [N_small_no (Or.inr zi)]; exact h
  obtain ⟨j, hj, e⟩ := sh_nat za
  obtain ⟨k, hk, e2, hk2⟩ := in_nat zi
  subst e; subst e2
  rw [N_small_ok za zi hj hk2]
  unfold n_small
  split
  · exact h
  · have hB := h.2.2.2.1 k hk
    have hoS : okI (SMALL (s_P s j) (s_I s k)) := hB.all 25
    have hl := (hoS.low (P := s_P s j) (e := RUN (s_P s j) (s_I s k) 0 7) (a := RUN (s_P s j) (s_I s k) 0 8) (m := RUN (s_P s j) (s_I s k) 0 10) (SMALL (s_P s j) (s_I s k)).length (Nat.le_refl _)).2
    exact ⟨h.1, h.2.1, h.2.2.1, h.2.2.2.1, hl.symm, hoS.1⟩
