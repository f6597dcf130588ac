/-! what changes the state: end, feed, input, program, run, small -/
def w_T (s : aSt) (T : List Int32) : aSt := (T, s_P s, s_n s, s_I s, s_f s, s_r s, s_s s)
theorem repC.tape {M M' : Nat → Nat → Int32} {J : Nat → Nat → Int64} {R : Nat → Nat → Option Nat} {s : aSt} (h : repC M J R s) {T : List Int32} (e : ∀ x y, ¬ (x = 1 ∧ y = 1) → ¬ x = 2 → M' x y = M x y) (hT' : rowIs M' 1 T) : repC M' J R (w_T s T) := by
  obtain ⟨hR, ⟨π, ip, h1, h2, h3, h4⟩, hT, hn, hI, hf1, hf2, hnm, hrun, hS, hW⟩ := h
  have p4 : ∀ {p : Nat}, isP4 p → ∀ a b, p ≤ a → a ≤ p + 4 → M' a b = M a b := fun hp a b q1 q2 => by
    rcases hp with rfl | rfl | rfl | rfl <;> exact e a b (by omega) (by omega)
  exact ⟨hR, ⟨π, ip, fun k hk => ⟨(h1 k hk).1, (h1 k hk).2.1, (h1 k hk).2.2.1, (h1 k hk).2.2.2.o (p4 (h1 k hk).2.1)⟩, h2, h3, h4⟩, hT', (e 0 9 (by decide) (by decide)).trans hn, fun i hi => (hI i hi).o (fun a b q1 q2 => e a b (by omega) (by omega)), (e 4 9 (by decide) (by decide)).trans hf1, (e 4 10 (by decide) (by decide)).trans hf2, hnm, hrun.o (e 0 10 (by decide) (by decide)) (fun x y q1 q2 => e x y (by omega) (by omega)), hS.o (fun a b q1 q2 => e a b (by omega) (by omega)), hW.o (fun a b q1 q2 => e a b (by omega) (by omega))⟩
theorem repM.tape {M M' : Nat → Nat → Int32} {J : Nat → Nat → Int64} {R : Nat → Nat → Option Nat} {s : aSt} (h : repM M J R s) {T : List Int32} (e : ∀ x y, ¬ (x = 134 ∧ y = 2) → ¬ x = 135 → M' x y = M x y) (hT' : tapM M' T) : repM M' J R (w_T s T) := by
  obtain ⟨hR, hT, hP, hn, hI, hf1, hf2, hrun, hS⟩ := h
  exact ⟨hR, hT', fun k hk => (hP k hk).o (e _ _ (by omega) (by omega)) (fun c y q1 q2 _ => e _ _ (by omega) (by omega)), (e _ _ (by omega) (by omega)).trans hn, fun i hi => (hI i hi).o (fun y => e _ _ (by omega) (by omega)) (fun y => e _ _ (by omega) (by omega)), (e _ _ (by omega) (by omega)).trans hf1, (e _ _ (by omega) (by omega)).trans hf2, hrun.o (e _ _ (by omega) (by omega)) (fun x y q1 q2 => e _ _ (by omega) (by omega)), hS.o (e _ _ (by omega) (by omega)) (fun y => e _ _ (by omega) (by omega)) (fun y => e _ _ (by omega) (by omega))⟩
def A_end (s : aSt) (n : Int32) : Int32 := e_ans (nI (s_T s).length) n
def N_end (s : aSt) (n : Int32) : aSt := if n < 0 then s else if n ≤ nI (s_T s).length then w_T s ((s_T s).take n.toNatClampNeg) else s
theorem take_getD {T : List Int32} {n k : Nat} (h : k < n) : (T.take n).getD k 0 = T.getD k 0 := by
  simp only [List.getD]; rw [List.getElem?_take_of_lt h]
theorem end_nat {T : List Int32} {n : Int32} (hl : T.length ≤ 1000) (h0 : ¬ n < 0) (h1 : n ≤ nI T.length) : ∃ j : Nat, j ≤ T.length ∧ n = nI j ∧ j < 2 ^ 31 := by
  obtain ⟨j, hj, rfl⟩ := nI_of h0
  exact ⟨j, (nI_leI hj (by omega)).mp h1, rfl, hj⟩

theorem C7_end {l : Launch} {D : va_G} {w : gw} {M : Nat → Nat → Int32} {J : Nat → Nat → Int64} {R : Nat → Nat → Option Nat} {s : aSt} (hw : w.1 = 166) (ho : okSt s) (h : repC M J R s) {n : Int32} : Ct l yX7_end wsX7_end ({ frames := 0, cells := 0, slots := 0, locals := 0 } : Room) D w [.ref (w.2.1 0), .int n] (M, J, R) (pstC M J R (N_end s n) (A_end s n)) := by
  obtain ⟨hR, ⟨π, ip, hsh⟩, hT, hn, hI, hf1, hf2, hnm, hrun, hS, hW⟩ := id h
  obtain ⟨o1, o2, o3, o4, o5, o6⟩ := id ho
  refine Cf.mono (c_X7_end hw hR) ?_
  have o1l := o1.1
  unfold N_end e_mem
  rw [hT.2.1]
  by_cases z0 : n < 0
  · rw [if_pos z0, if_pos z0]; exact ⟨rfl, h, hiS.rf M, hiS.rf J, hiS.rf R⟩
  rw [if_neg z0, if_neg z0]
  by_cases z1 : n ≤ nI (s_T s).length
  · rw [if_pos z1, if_pos z1]
    obtain ⟨j, hj, rfl, hj2⟩ := end_nat o1l z0 z1
    rw [nI_clamp hj2]
    refine ⟨rfl, h.tape (fun x y q1 q2 => up2_nb q1) ⟨?_, ?_, fun k hk => ?_⟩, fun x y q => up2_n1 _ _ (by omega), hiS.rf J, hiS.rf R⟩
    · rw [List.length_take]; have := hT.1; omega
    · dsimp only; rw [up2_eq, List.length_take, Nat.min_eq_left hj]
    · rw [List.length_take] at hk
      dsimp only; rw [up2_n1 _ _ (by decide), take_getD (by omega)]
      exact hT.2.2 k (by omega)
  · rw [if_neg z1, if_neg z1]; exact ⟨rfl, h, hiS.rf M, hiS.rf J, hiS.rf R⟩

theorem C8_end {l : Launch} {D : va_G} {w : gw} {M : Nat → Nat → Int32} {J : Nat → Nat → Int64} {R : Nat → Nat → Option Nat} {s : aSt} (hw : w.1 = 166) (ho : okSt s) (h : repM M J R s) {n : Int32} : Ct l yX8_end wsX8_end ({ frames := 0, cells := 0, slots := 0, locals := 0 } : Room) D w [.ref (w.2.1 134), .int n] (M, J, R) (postM M J R (N_end s n) (A_end s n)) := by
  obtain ⟨hR, hT, hP, hn, hI, hf1, hf2, hrun, hS⟩ := id h
  obtain ⟨o1, o2, o3, o4, o5, o6⟩ := id ho
  refine Cf.mono (c_X8_end hw hR) ?_
  have o1l := o1.1
  unfold N_end e_mem
  rw [hT.1]
  by_cases z0 : n < 0
  · rw [if_pos z0, if_pos z0]; exact ⟨rfl, h, loS.rf M, loS.rf J, loS.rf R⟩
  rw [if_neg z0, if_neg z0]
  by_cases z1 : n ≤ nI (s_T s).length
  · rw [if_pos z1, if_pos z1]
    obtain ⟨j, hj, rfl, hj2⟩ := end_nat o1l z0 z1
    rw [nI_clamp hj2]
    refine ⟨rfl, h.tape (fun x y q1 q2 => up2_nb q1) ⟨?_, fun k hk => ?_⟩, fun x y q => up2_n1 _ _ (by omega), loS.rf J, loS.rf R⟩
    · dsimp only; rw [up2_eq, List.length_take, Nat.min_eq_left hj]
    · rw [List.length_take] at hk
      dsimp only; rw [up2_n1 _ _ (by decide), take_getD (by omega)]
      exact hT.2 k (by omega)
  · rw [if_neg z1, if_neg z1]; exact ⟨rfl, h, loS.rf M, loS.rf J, loS.rf R⟩

def by4 (x : Int32) : List Int32 := [(x >>> ((24 : Int32) &&& 31)) &&& 255, (x >>> ((16 : Int32) &&& 31)) &&& 255, (x >>> ((8 : Int32) &&& 31)) &&& 255, (x >>> ((0 : Int32) &&& 31)) &&& 255]
def by20 (a b c d e : Int32) : List Int32 := by4 a ++ (by4 b ++ (by4 c ++ (by4 d ++ by4 e)))
def A_feed (s : aSt) : Int32 := if (s_T s).length + 20 ≤ 1000 then nI ((s_T s).length + 20) else -1
def N_feed (s : aSt) (a b c d e : Int32) : aSt := if (s_T s).length + 20 ≤ 1000 then w_T s (s_T s ++ by20 a b c d e) else s
theorem add_row {M : Nat → Nat → Int32} {T : List Int32} (h : rowIs M 1 T) (hl : T.length < 1000) (b : Int32) : rowIs (b_add M 1 b) 1 (T ++ [b]) ∧ ∀ x y, ¬ (x = 1 ∧ y = 1) → ¬ x = 2 → b_add M 1 b x y = M x y := by
  have e : b_add M 1 b = up2 (up2 M 2 T.length b) 1 1 (nI (T.length + 1)) := by
    unfold b_add
    rw [h.2.1, if_neg (nI_pos (by omega)), if_neg (show ¬ nI (ln (1 + 1)) ≤ nI T.length from nI_ge (show T.length < 1000 by omega) (by decide)), nI_clamp (by omega), nI_p1]
  rw [e]
  refine ⟨⟨by rw [snoc_len]; exact hl, by rw [up2_eq, snoc_len], fun k hk => ?_⟩, fun x y q1 q2 => by rw [up2_nb q1, up2_n1 _ _ q2]⟩
  rw [snoc_len] at hk
  rw [up2_n1 _ _ (by decide)]
  rcases Nat.lt_or_ge k T.length with g | g
  · rw [snoc_lt g, up2_n2 _ _ (by omega)]; exact h.2.2 k g
  · obtain rfl : k = T.length := by omega
    rw [snoc_eq rfl, up2_eq]
theorem add4_row {M : Nat → Nat → Int32} {T : List Int32} (h : rowIs M 1 T) (hl : T.length + 4 ≤ 1000) (x : Int32) : rowIs (add4 M x) 1 (T ++ by4 x) ∧ ∀ a b, ¬ (a = 1 ∧ b = 1) → ¬ a = 2 → add4 M x a b = M a b := by
  unfold add4 by4
  obtain ⟨r1, f1⟩ := add_row h (by omega) ((x >>> ((24 : Int32) &&& 31)) &&& 255)
  obtain ⟨r2, f2⟩ := add_row r1 (by rw [snoc_len]; omega) ((x >>> ((16 : Int32) &&& 31)) &&& 255)
  obtain ⟨r3, f3⟩ := add_row r2 (by rw [snoc_len, snoc_len]; omega) ((x >>> ((8 : Int32) &&& 31)) &&& 255)
  obtain ⟨r4, f4⟩ := add_row r3 (by rw [snoc_len, snoc_len, snoc_len]; omega) ((x >>> ((0 : Int32) &&& 31)) &&& 255)
  refine ⟨?_, fun a b q1 q2 => (f4 a b q1 q2).trans ((f3 a b q1 q2).trans ((f2 a b q1 q2).trans (f1 a b q1 q2)))⟩
  simpa [List.append_assoc] using r4
theorem by4_len (x : Int32) : (by4 x).length = 4 := rfl
theorem by20_len (a b c d e : Int32) : (by20 a b c d e).length = 20 := rfl
theorem add20_row {M : Nat → Nat → Int32} {T : List Int32} (h : rowIs M 1 T) (hl : T.length + 20 ≤ 1000) (a b c d e : Int32) : rowIs (add20 M a b c d e) 1 (T ++ by20 a b c d e) ∧ ∀ x y, ¬ (x = 1 ∧ y = 1) → ¬ x = 2 → add20 M a b c d e x y = M x y := by
  unfold add20 by20
  have L : ∀ (T : List Int32) (x : Int32), (T ++ by4 x).length = T.length + 4 := fun T x => by rw [List.length_append, by4_len]
  obtain ⟨r1, f1⟩ := add4_row h (by omega) a
  obtain ⟨r2, f2⟩ := add4_row r1 (by rw [L]; omega) b
  obtain ⟨r3, f3⟩ := add4_row r2 (by rw [L, L]; omega) c
  obtain ⟨r4, f4⟩ := add4_row r3 (by rw [L, L, L]; omega) d
  obtain ⟨r5, f5⟩ := add4_row r4 (by rw [L, L, L, L]; omega) e
  refine ⟨?_, fun x y q1 q2 => (f5 x y q1 q2).trans ((f4 x y q1 q2).trans ((f3 x y q1 q2).trans ((f2 x y q1 q2).trans (f1 x y q1 q2))))⟩
  simpa [List.append_assoc] using r5
theorem i8_255 (x : Int32) : x.toInt8.toInt32 &&& 255 = x &&& 255 := nar255 x

theorem fb_0 (a b c d e : Int32) : f_byte a b c d e 0 &&& 255 = (a >>> ((24 : Int32) &&& 31)) &&& 255 := by
  unfold f_byte
  rw [nar255, i8_255]
  have h : f_sel a b c d e (nI 0) = a := by unfold f_sel; rw [if_neg (by decide)]
  rw [h, show ((24 - 8 * (nI 0 &&& 3)) &&& 31 : Int32) = ((24 : Int32) &&& 31) from by decide]
theorem fb_1 (a b c d e : Int32) : f_byte a b c d e 1 &&& 255 = (a >>> ((16 : Int32) &&& 31)) &&& 255 := by
  unfold f_byte
  rw [nar255, i8_255]
  have h : f_sel a b c d e (nI 1) = a := by unfold f_sel; rw [if_neg (by decide)]
  rw [h, show ((24 - 8 * (nI 1 &&& 3)) &&& 31 : Int32) = ((16 : Int32) &&& 31) from by decide]
theorem fb_2 (a b c d e : Int32) : f_byte a b c d e 2 &&& 255 = (a >>> ((8 : Int32) &&& 31)) &&& 255 := by
  unfold f_byte
  rw [nar255, i8_255]
  have h : f_sel a b c d e (nI 2) = a := by unfold f_sel; rw [if_neg (by decide)]
  rw [h, show ((24 - 8 * (nI 2 &&& 3)) &&& 31 : Int32) = ((8 : Int32) &&& 31) from by decide]
theorem fb_3 (a b c d e : Int32) : f_byte a b c d e 3 &&& 255 = (a >>> ((0 : Int32) &&& 31)) &&& 255 := by
  unfold f_byte
  rw [nar255, i8_255]
  have h : f_sel a b c d e (nI 3) = a := by unfold f_sel; rw [if_neg (by decide)]
  rw [h, show ((24 - 8 * (nI 3 &&& 3)) &&& 31 : Int32) = ((0 : Int32) &&& 31) from by decide]
theorem fb_4 (a b c d e : Int32) : f_byte a b c d e 4 &&& 255 = (b >>> ((24 : Int32) &&& 31)) &&& 255 := by
  unfold f_byte
  rw [nar255, i8_255]
  have h : f_sel a b c d e (nI 4) = b := by unfold f_sel; rw [if_pos (by decide), if_neg (by decide)]
  rw [h, show ((24 - 8 * (nI 4 &&& 3)) &&& 31 : Int32) = ((24 : Int32) &&& 31) from by decide]
theorem fb_5 (a b c d e : Int32) : f_byte a b c d e 5 &&& 255 = (b >>> ((16 : Int32) &&& 31)) &&& 255 := by
  unfold f_byte
  rw [nar255, i8_255]
  have h : f_sel a b c d e (nI 5) = b := by unfold f_sel; rw [if_pos (by decide), if_neg (by decide)]
  rw [h, show ((24 - 8 * (nI 5 &&& 3)) &&& 31 : Int32) = ((16 : Int32) &&& 31) from by decide]
theorem fb_6 (a b c d e : Int32) : f_byte a b c d e 6 &&& 255 = (b >>> ((8 : Int32) &&& 31)) &&& 255 := by
  unfold f_byte
  rw [nar255, i8_255]
  have h : f_sel a b c d e (nI 6) = b := by unfold f_sel; rw [if_pos (by decide), if_neg (by decide)]
  rw [h, show ((24 - 8 * (nI 6 &&& 3)) &&& 31 : Int32) = ((8 : Int32) &&& 31) from by decide]
theorem fb_7 (a b c d e : Int32) : f_byte a b c d e 7 &&& 255 = (b >>> ((0 : Int32) &&& 31)) &&& 255 := by
  unfold f_byte
  rw [nar255, i8_255]
  have h : f_sel a b c d e (nI 7) = b := by unfold f_sel; rw [if_pos (by decide), if_neg (by decide)]
  rw [h, show ((24 - 8 * (nI 7 &&& 3)) &&& 31 : Int32) = ((0 : Int32) &&& 31) from by decide]
theorem fb_8 (a b c d e : Int32) : f_byte a b c d e 8 &&& 255 = (c >>> ((24 : Int32) &&& 31)) &&& 255 := by
  unfold f_byte
  rw [nar255, i8_255]
  have h : f_sel a b c d e (nI 8) = c := by unfold f_sel; rw [if_pos (by decide), if_pos (by decide), if_neg (by decide)]
  rw [h, show ((24 - 8 * (nI 8 &&& 3)) &&& 31 : Int32) = ((24 : Int32) &&& 31) from by decide]
theorem fb_9 (a b c d e : Int32) : f_byte a b c d e 9 &&& 255 = (c >>> ((16 : Int32) &&& 31)) &&& 255 := by
  unfold f_byte
  rw [nar255, i8_255]
  have h : f_sel a b c d e (nI 9) = c := by unfold f_sel; rw [if_pos (by decide), if_pos (by decide), if_neg (by decide)]
  rw [h, show ((24 - 8 * (nI 9 &&& 3)) &&& 31 : Int32) = ((16 : Int32) &&& 31) from by decide]
theorem fb_10 (a b c d e : Int32) : f_byte a b c d e 10 &&& 255 = (c >>> ((8 : Int32) &&& 31)) &&& 255 := by
  unfold f_byte
  rw [nar255, i8_255]
  have h : f_sel a b c d e (nI 10) = c := by unfold f_sel; rw [if_pos (by decide), if_pos (by decide), if_neg (by decide)]
  rw [h, show ((24 - 8 * (nI 10 &&& 3)) &&& 31 : Int32) = ((8 : Int32) &&& 31) from by decide]
theorem fb_11 (a b c d e : Int32) : f_byte a b c d e 11 &&& 255 = (c >>> ((0 : Int32) &&& 31)) &&& 255 := by
  unfold f_byte
  rw [nar255, i8_255]
  have h : f_sel a b c d e (nI 11) = c := by unfold f_sel; rw [if_pos (by decide), if_pos (by decide), if_neg (by decide)]
  rw [h, show ((24 - 8 * (nI 11 &&& 3)) &&& 31 : Int32) = ((0 : Int32) &&& 31) from by decide]
theorem fb_12 (a b c d e : Int32) : f_byte a b c d e 12 &&& 255 = (d >>> ((24 : Int32) &&& 31)) &&& 255 := by
  unfold f_byte
  rw [nar255, i8_255]
  have h : f_sel a b c d e (nI 12) = d := by unfold f_sel; rw [if_pos (by decide), if_pos (by decide), if_pos (by decide), if_neg (by decide)]
  rw [h, show ((24 - 8 * (nI 12 &&& 3)) &&& 31 : Int32) = ((24 : Int32) &&& 31) from by decide]
theorem fb_13 (a b c d e : Int32) : f_byte a b c d e 13 &&& 255 = (d >>> ((16 : Int32) &&& 31)) &&& 255 := by
  unfold f_byte
  rw [nar255, i8_255]
  have h : f_sel a b c d e (nI 13) = d := by unfold f_sel; rw [if_pos (by decide), if_pos (by decide), if_pos (by decide), if_neg (by decide)]
  rw [h, show ((24 - 8 * (nI 13 &&& 3)) &&& 31 : Int32) = ((16 : Int32) &&& 31) from by decide]
theorem fb_14 (a b c d e : Int32) : f_byte a b c d e 14 &&& 255 = (d >>> ((8 : Int32) &&& 31)) &&& 255 := by
  unfold f_byte
  rw [nar255, i8_255]
  have h : f_sel a b c d e (nI 14) = d := by unfold f_sel; rw [if_pos (by decide), if_pos (by decide), if_pos (by decide), if_neg (by decide)]
  rw [h, show ((24 - 8 * (nI 14 &&& 3)) &&& 31 : Int32) = ((8 : Int32) &&& 31) from by decide]
theorem fb_15 (a b c d e : Int32) : f_byte a b c d e 15 &&& 255 = (d >>> ((0 : Int32) &&& 31)) &&& 255 := by
  unfold f_byte
  rw [nar255, i8_255]
  have h : f_sel a b c d e (nI 15) = d := by unfold f_sel; rw [if_pos (by decide), if_pos (by decide), if_pos (by decide), if_neg (by decide)]
  rw [h, show ((24 - 8 * (nI 15 &&& 3)) &&& 31 : Int32) = ((0 : Int32) &&& 31) from by decide]
theorem fb_16 (a b c d e : Int32) : f_byte a b c d e 16 &&& 255 = (e >>> ((24 : Int32) &&& 31)) &&& 255 := by
  unfold f_byte
  rw [nar255, i8_255]
  have h : f_sel a b c d e (nI 16) = e := by unfold f_sel; rw [if_pos (by decide), if_pos (by decide), if_pos (by decide), if_pos (by decide)]
  rw [h, show ((24 - 8 * (nI 16 &&& 3)) &&& 31 : Int32) = ((24 : Int32) &&& 31) from by decide]
theorem fb_17 (a b c d e : Int32) : f_byte a b c d e 17 &&& 255 = (e >>> ((16 : Int32) &&& 31)) &&& 255 := by
  unfold f_byte
  rw [nar255, i8_255]
  have h : f_sel a b c d e (nI 17) = e := by unfold f_sel; rw [if_pos (by decide), if_pos (by decide), if_pos (by decide), if_pos (by decide)]
  rw [h, show ((24 - 8 * (nI 17 &&& 3)) &&& 31 : Int32) = ((16 : Int32) &&& 31) from by decide]
theorem fb_18 (a b c d e : Int32) : f_byte a b c d e 18 &&& 255 = (e >>> ((8 : Int32) &&& 31)) &&& 255 := by
  unfold f_byte
  rw [nar255, i8_255]
  have h : f_sel a b c d e (nI 18) = e := by unfold f_sel; rw [if_pos (by decide), if_pos (by decide), if_pos (by decide), if_pos (by decide)]
  rw [h, show ((24 - 8 * (nI 18 &&& 3)) &&& 31 : Int32) = ((8 : Int32) &&& 31) from by decide]
theorem fb_19 (a b c d e : Int32) : f_byte a b c d e 19 &&& 255 = (e >>> ((0 : Int32) &&& 31)) &&& 255 := by
  unfold f_byte
  rw [nar255, i8_255]
  have h : f_sel a b c d e (nI 19) = e := by unfold f_sel; rw [if_pos (by decide), if_pos (by decide), if_pos (by decide), if_pos (by decide)]
  rw [h, show ((24 - 8 * (nI 19 &&& 3)) &&& 31 : Int32) = ((0 : Int32) &&& 31) from by decide]
theorem fb_all (a b c d e : Int32) (k : Nat) (hk : k < 20) : f_byte a b c d e k &&& 255 = (by20 a b c d e).getD k 0 := by
  match k, hk with
  | 0, _ => exact fb_0 a b c d e
  | 1, _ => exact fb_1 a b c d e
  | 2, _ => exact fb_2 a b c d e
  | 3, _ => exact fb_3 a b c d e
  | 4, _ => exact fb_4 a b c d e
  | 5, _ => exact fb_5 a b c d e
  | 6, _ => exact fb_6 a b c d e
  | 7, _ => exact fb_7 a b c d e
  | 8, _ => exact fb_8 a b c d e
  | 9, _ => exact fb_9 a b c d e
  | 10, _ => exact fb_10 a b c d e
  | 11, _ => exact fb_11 a b c d e
  | 12, _ => exact fb_12 a b c d e
  | 13, _ => exact fb_13 a b c d e
  | 14, _ => exact fb_14 a b c d e
  | 15, _ => exact fb_15 a b c d e
  | 16, _ => exact fb_16 a b c d e
  | 17, _ => exact fb_17 a b c d e
  | 18, _ => exact fb_18 a b c d e
  | 19, _ => exact fb_19 a b c d e
  | n + 20, h => omega

theorem len20 {t : Nat} (ht : t ≤ 1000) : (nI t + 20 ≤ 1000) ↔ (t + 20 ≤ 1000) := by
  rw [show nI t + 20 = nI (t + 20) from nI_add t 20]
  exact nI_leI (b := 1000) (by omega) (by decide)
theorem app_lt {T B : List Int32} {k : Nat} (h : k < T.length) : (T ++ B).getD k 0 = T.getD k 0 := by
  simp only [List.getD]; rw [List.getElem?_append_left h]
theorem app_ge {T B : List Int32} {k : Nat} (h : T.length ≤ k) : (T ++ B).getD k 0 = B.getD (k - T.length) 0 := by
  simp only [List.getD]; rw [List.getElem?_append_right h]

theorem C7_feed {l : Launch} {D : va_G} {w : gw} {M : Nat → Nat → Int32} {J : Nat → Nat → Int64} {R : Nat → Nat → Option Nat} {s : aSt} (hw : w.1 = 166) (ho : okSt s) (h : repC M J R s) {a b c d e : Int32} : Ct l yX7_feed wsX7_feed ({ frames := 2, cells := 0, slots := 0, locals := 43 } : Room) D w [.ref (w.2.1 0), .int a, .int b, .int c, .int d, .int e] (M, J, R) (pstC M J R (N_feed s a b c d e) (A_feed s)) := by
  obtain ⟨hR, ⟨π, ip, hsh⟩, hT, hn, hI, hf1, hf2, hnm, hrun, hS, hW⟩ := id h
  obtain ⟨o1, o2, o3, o4, o5, o6⟩ := id ho
  refine Cf.mono (c_X7_feed hw hR) ?_
  have o1l := o1.1
  unfold A_feed N_feed
  rw [hT.2.1]
  by_cases z : (s_T s).length + 20 ≤ 1000
  · have z2 := (len20 o1l).mpr z
    obtain ⟨r1, f1⟩ := add20_row hT z a b c d e
    rw [if_pos z2, if_pos z2, if_pos z, if_pos z]
    have g1 : hiS M (add20 M a b c d e) := fun x y q => f1 x y (by omega) (by omega)
    have g2 : add20 M a b c d e 1 1 = nI ((s_T s).length + 20) := by rw [r1.2.1, List.length_append, by20_len]
    have g3 := h.tape f1 r1
    revert g1 g2 g3
    generalize add20 M a b c d e = M5
    intro g1 g2 g3
    exact ⟨by rw [g2], g3, g1, hiS.rf J, hiS.rf R⟩
  · have z2 : ¬ (nI (s_T s).length + 20 ≤ 1000) := fun y => z ((len20 o1l).mp y)
    rw [if_neg z2, if_neg z2, if_neg z, if_neg z]
    exact ⟨rfl, h, hiS.rf M, hiS.rf J, hiS.rf R⟩

theorem C8_feed {l : Launch} {D : va_G} {w : gw} {M : Nat → Nat → Int32} {J : Nat → Nat → Int64} {R : Nat → Nat → Option Nat} {s : aSt} (hw : w.1 = 166) (ho : okSt s) (h : repM M J R s) {a b c d e : Int32} : Ct l yX8_feed wsX8_feed ({ frames := 0, cells := 0, slots := 0, locals := 0 } : Room) D w [.ref (w.2.1 134), .int a, .int b, .int c, .int d, .int e] (M, J, R) (postM M J R (N_feed s a b c d e) (A_feed s)) := by
  obtain ⟨hR, hT, hP, hn, hI, hf1, hf2, hrun, hS⟩ := id h
  obtain ⟨o1, o2, o3, o4, o5, o6⟩ := id ho
  have o1l := o1.1
  refine Cf.mono (c_X8_feed (t := (s_T s).length) hw hR hT.1 o1l) ?_
  unfold A_feed N_feed
  rw [hT.1]
  by_cases z : (s_T s).length + 20 ≤ 1000
  · have z2 := (len20 o1l).mpr z
    rw [if_pos z2, if_pos z2, if_pos z, if_pos z]
    have e20 : nI (s_T s).length + 20 = nI ((s_T s).length + 20) := nI_add _ 20
    rw [e20]
    refine ⟨rfl, h.tape (fun x y q1 q2 => by dsimp only; rw [up2_nb q1, f_mem_o _ _ _ q2]) ⟨?_, fun k hk => ?_⟩, fun x y q => by show up2 _ _ _ _ x y = _; rw [up2_n1 _ _ (by omega), f_mem_o _ _ _ (by omega)], loS.rf J, loS.rf R⟩
    · dsimp only; rw [up2_eq, List.length_append, by20_len]
    · rw [List.length_append, by20_len] at hk
      dsimp only; rw [up2_n1 _ _ (by decide)]
      unfold f_mem
      by_cases g : k < (s_T s).length
      · rw [if_neg (by omega), app_lt g]; exact hT.2 k g
      · rw [if_pos ⟨rfl, by omega, by omega⟩, app_ge (by omega)]
        exact fb_all a b c d e _ (by omega)
  · have z2 : ¬ (nI (s_T s).length + 20 ≤ 1000) := fun y => z ((len20 o1l).mp y)
    rw [if_neg z2, if_neg z2, if_neg z, if_neg z]
    exact ⟨rfl, h, loS.rf M, loS.rf J, loS.rf R⟩
