/-! the answers that need runs and leave the state as it is -/
theorem isP4.b {p : Nat} (h : isP4 p) : (p + 4 < 25 ∨ 58 < p) := by
  rcases h with rfl | rfl | rfl | rfl <;> omega
def A_2 (s : aSt) (a i : Int32) (f : List act4 → List Int32 → Int32) : Int32 := if isSh a = 0 then -1 else if isIn (nI (s_n s)) i = 0 then -1 else f (s_P s a.toNatClampNeg) (s_I s i.toNatClampNeg)
def RUL (P : List act4) (I : List Int32) : Int32 := if RUN P I 0 8 = -1 then 0 else rbits (rF9 P I) (RUN P I 0 5).toNatClampNeg
def A_held (s : aSt) (a b i : Int32) : Int32 := if isSh a = 0 then -1 else if isSh b = 0 then -1 else if isIn (nI (s_n s)) i = 0 then -1 else HELD (s_P s a.toNatClampNeg) (s_P s b.toNatClampNeg) (s_I s i.toNatClampNeg)
def A_heldAll (s : aSt) (a b how : Int32) : Int32 := if isSh a = 0 then -1 else if isSh b = 0 then -1 else if how < 0 then -1 else if how < 6 then nI (cntH (fun k => HELD (s_P s a.toNatClampNeg) (s_P s b.toNatClampNeg) (s_I s k)) how (s_n s)) else -1
def A_heaps (s : aSt) (a : Int32) : Int32 := if isSh a = 0 then -1 else nI (hps (s_P s a.toNatClampNeg) (s_I s) (s_n s)).1
def A_heap (s : aSt) (a k x : Int32) : Int32 := if isSh a = 0 then -1 else hp_ans (cE (s_P s a.toNatClampNeg) (s_I s)) (cA (s_P s a.toNatClampNeg) (s_I s)) (cM (s_P s a.toNatClampNeg) (s_I s)) (hps (s_P s a.toNatClampNeg) (s_I s) (s_n s)) k x
def A_heapOf (s : aSt) (a i : Int32) : Int32 := if isSh a = 0 then -1 else if isIn (nI (s_n s)) i = 0 then -1 else (hps (s_P s a.toNatClampNeg) (s_I s) (s_n s)).2.2.2 i.toNatClampNeg
theorem A2_no {s : aSt} {a i : Int32} {f : List act4 → List Int32 → Int32} (h : isSh a = 0 ∨ isIn (nI (s_n s)) i = 0) : A_2 s a i f = -1 := by
  unfold A_2
  by_cases z : isSh a = 0
  · rw [if_pos z]
  · rw [if_neg z, if_pos (h.resolve_left z)]
theorem A2_ok {s : aSt} {a i : Nat} {f : List act4 → List Int32 → Int32} (ha : ¬ isSh (nI a) = 0) (hi : ¬ isIn (nI (s_n s)) (nI i) = 0) (ha2 : a < 3) (hi2 : i < 2 ^ 31) : A_2 s (nI a) (nI i) f = f (s_P s a) (s_I s i) := by
  unfold A_2
  rw [if_neg ha, if_neg hi, nI_clamp (by omega), nI_clamp hi2]

theorem C7_ruled {l : Launch} {D : va_G} {w : gw} {M : Nat → Nat → Int32} {J : Nat → Nat → Int64} {R : Nat → Nat → Option Nat} {s : aSt} (hw : w.1 = 166) (ho : okSt s) (h : repC M J R s) {a i : Int32} : Ct l yX7_ruled wsX7_ruled ({ frames := 6, cells := 0, slots := 0, locals := 144 } : Room) D w [.ref (w.2.1 0), .int a, .int i] (M, J, R) (pstC M J R s (A_2 s a i RUL)) := by
  obtain ⟨hR, ⟨π, ip, hsh⟩, hT, hn, hI, hf1, hf2, hnm, hrun, hS, hW⟩ := id h
  obtain ⟨o1, o2, o3, o4, o5, o6⟩ := id ho
  by_cases za : isSh a = 0
  · exact Cf.mono (c_X7_ruled_no hw hR (Or.inl za)) ⟨congrArg (fun z => some (Value.int z)) (A2_no (Or.inl za)).symm, h, hiS.rf M, hiS.rf J, hiS.rf R⟩
  by_cases zi : isIn (nI (s_n s)) i = 0
  · exact Cf.mono (c_X7_ruled_no hw hR (Or.inr (by rw [hn]; exact zi))) ⟨congrArg (fun z => some (Value.int z)) (A2_no (Or.inr zi)).symm, h, hiS.rf M, hiS.rf J, hiS.rf R⟩
  obtain ⟨j, hj, e⟩ := sh_nat za
  obtain ⟨k, hk, e2, hk2⟩ := in_nat zi
  subst e; subst e2
  refine Ct.mono (c_X7_ruled (π := π) hw hR (hsh.hS hw hR) hj o3 hn hk (hsh.1 j hj).2.1.b (hsh.1 j hj).2.2.2 (o2 j hj).1 (hI k hk) (o4 k hk)) (fun v u z => ?_)
  obtain ⟨z1, z2, z3, z4⟩ := z
  refine ⟨z1.trans (congrArg (fun y => some (Value.int y)) (A2_ok (f := RUL) za zi hj hk2).symm), h.f (fun x y q1 q2 q3 => z4 x y (by omega)) (fun y => by rw [z2]) (fun x y _ => by rw [z3]) o3, fun x y q => z4 x y (by omega), fun x y _ => by rw [z2], fun x y _ => by rw [z3]⟩

theorem C7_nearest {l : Launch} {D : va_G} {w : gw} {M : Nat → Nat → Int32} {J : Nat → Nat → Int64} {R : Nat → Nat → Option Nat} {s : aSt} (hw : w.1 = 166) (ho : okSt s) (h : repC M J R s) {a i : Int32} : Ct l yX7_nearest wsX7_nearest ({ frames := 6, cells := 0, slots := 0, locals := 144 } : Room) D w [.ref (w.2.1 0), .int a, .int i] (M, J, R) (pstC M J R s (A_2 s a i (fun P I => (NEAR P I).1))) := by
  obtain ⟨hR, ⟨π, ip, hsh⟩, hT, hn, hI, hf1, hf2, hnm, hrun, hS, hW⟩ := id h
  obtain ⟨o1, o2, o3, o4, o5, o6⟩ := id ho
  by_cases za : isSh a = 0
  · exact Cf.mono (c_X7_nearest_no hw hR (Or.inl za)) ⟨congrArg (fun z => some (Value.int z)) (A2_no (Or.inl za)).symm, h, hiS.rf M, hiS.rf J, hiS.rf R⟩
  by_cases zi : isIn (nI (s_n s)) i = 0
  · exact Cf.mono (c_X7_nearest_no hw hR (Or.inr (by rw [hn]; exact zi))) ⟨congrArg (fun z => some (Value.int z)) (A2_no (Or.inr zi)).symm, h, hiS.rf M, hiS.rf J, hiS.rf R⟩
  obtain ⟨j, hj, e⟩ := sh_nat za
  obtain ⟨k, hk, e2, hk2⟩ := in_nat zi
  subst e; subst e2
  refine Ct.mono (c_X7_nearest (π := π) hw hR (hsh.hS hw hR) hj o3 hn hk (hsh.1 j hj).2.1.b (hsh.1 j hj).2.2.2 (o2 j hj).1 (hI k hk) (o4 k hk)) (fun v u z => ?_)
  obtain ⟨z1, z2, z3, z4⟩ := z
  refine ⟨z1.trans (congrArg (fun y => some (Value.int y)) (A2_ok (f := (fun P I => (NEAR P I).1)) za zi hj hk2).symm), h.f (fun x y q1 q2 q3 => z4 x y (by omega) (by omega)) (fun y => by rw [z2]) (fun x y _ => by rw [z3]) o3, fun x y q => z4 x y (by omega) (by omega), fun x y _ => by rw [z2], fun x y _ => by rw [z3]⟩

theorem C7_nearestByte {l : Launch} {D : va_G} {w : gw} {M : Nat → Nat → Int32} {J : Nat → Nat → Int64} {R : Nat → Nat → Option Nat} {s : aSt} (hw : w.1 = 166) (ho : okSt s) (h : repC M J R s) {a i : Int32} : Ct l yX7_nearestByte wsX7_nearestByte ({ frames := 6, cells := 0, slots := 0, locals := 144 } : Room) D w [.ref (w.2.1 0), .int a, .int i] (M, J, R) (pstC M J R s (A_2 s a i (fun P I => (NEAR P I).2))) := by
  obtain ⟨hR, ⟨π, ip, hsh⟩, hT, hn, hI, hf1, hf2, hnm, hrun, hS, hW⟩ := id h
  obtain ⟨o1, o2, o3, o4, o5, o6⟩ := id ho
  by_cases za : isSh a = 0
  · exact Cf.mono (c_X7_nearestByte_no hw hR (Or.inl za)) ⟨congrArg (fun z => some (Value.int z)) (A2_no (Or.inl za)).symm, h, hiS.rf M, hiS.rf J, hiS.rf R⟩
  by_cases zi : isIn (nI (s_n s)) i = 0
  · exact Cf.mono (c_X7_nearestByte_no hw hR (Or.inr (by rw [hn]; exact zi))) ⟨congrArg (fun z => some (Value.int z)) (A2_no (Or.inr zi)).symm, h, hiS.rf M, hiS.rf J, hiS.rf R⟩
  obtain ⟨j, hj, e⟩ := sh_nat za
  obtain ⟨k, hk, e2, hk2⟩ := in_nat zi
  subst e; subst e2
  refine Ct.mono (c_X7_nearestByte (π := π) hw hR (hsh.hS hw hR) hj o3 hn hk (hsh.1 j hj).2.1.b (hsh.1 j hj).2.2.2 (o2 j hj).1 (hI k hk) (o4 k hk)) (fun v u z => ?_)
  obtain ⟨z1, z2, z3, z4⟩ := z
  refine ⟨z1.trans (congrArg (fun y => some (Value.int y)) (A2_ok (f := (fun P I => (NEAR P I).2)) za zi hj hk2).symm), h.f (fun x y q1 q2 q3 => z4 x y (by omega) (by omega)) (fun y => by rw [z2]) (fun x y _ => by rw [z3]) o3, fun x y q => z4 x y (by omega) (by omega), fun x y _ => by rw [z2], fun x y _ => by rw [z3]⟩

theorem C8_ruled {l : Launch} {D : va_G} {w : gw} {M : Nat → Nat → Int32} {J : Nat → Nat → Int64} {R : Nat → Nat → Option Nat} {s : aSt} (hw : w.1 = 166) (ho : okSt s) (h : repM M J R s) {a i : Int32} : Ct l yX8_ruled wsX8_ruled ({ frames := 3, cells := 0, slots := 0, locals := 75 } : Room) D w [.ref (w.2.1 134), .int a, .int i] (M, J, R) (postM M J R s (A_2 s a i RUL)) := by
  obtain ⟨hR, hT, hP, hn, hI, hf1, hf2, hrun, hS⟩ := id h
  obtain ⟨o1, o2, o3, o4, o5, o6⟩ := id ho
  by_cases za : isSh a = 0
  · exact Cf.mono (c_X8_ruled_no hw hR (Or.inl za)) ⟨congrArg (fun z => some (Value.int z)) (A2_no (Or.inl za)).symm, h, loS.rf M, loS.rf J, loS.rf R⟩
  by_cases zi : isIn (nI (s_n s)) i = 0
  · exact Cf.mono (c_X8_ruled_no hw hR (Or.inr (by rw [hn]; exact zi))) ⟨congrArg (fun z => some (Value.int z)) (A2_no (Or.inr zi)).symm, h, loS.rf M, loS.rf J, loS.rf R⟩
  obtain ⟨j, hj, e⟩ := sh_nat za
  obtain ⟨k, hk, e2, hk2⟩ := in_nat zi
  subst e; subst e2
  refine Ct.mono (c_X8_ruled hw hR hj o3 hn hk (hP j hj) (o2 j hj) (hI k hk) (o4 k hk)) (fun v u z => ?_)
  obtain ⟨z1, z2, z3, z4⟩ := z
  refine ⟨z1.trans (congrArg (fun y => some (Value.int y)) (A2_ok (f := RUL) za zi hj hk2).symm), h.f (fun x y q1 q2 q3 q4 q5 => z4 x y (by omega) (by omega)) (fun x y _ => by rw [z3]), fun x y q => z4 x y (by omega) (by omega), fun x y _ => by rw [z2], fun x y _ => by rw [z3]⟩

theorem C8_nearest {l : Launch} {D : va_G} {w : gw} {M : Nat → Nat → Int32} {J : Nat → Nat → Int64} {R : Nat → Nat → Option Nat} {s : aSt} (hw : w.1 = 166) (ho : okSt s) (h : repM M J R s) {a i : Int32} : Ct l yX8_nearest wsX8_nearest ({ frames := 4, cells := 0, slots := 0, locals := 100 } : Room) D w [.ref (w.2.1 134), .int a, .int i] (M, J, R) (postM M J R s (A_2 s a i (fun P I => (NEAR P I).1))) := by
  obtain ⟨hR, hT, hP, hn, hI, hf1, hf2, hrun, hS⟩ := id h
  obtain ⟨o1, o2, o3, o4, o5, o6⟩ := id ho
  by_cases za : isSh a = 0
  · exact Cf.mono (c_X8_nearest_no hw hR (Or.inl za)) ⟨congrArg (fun z => some (Value.int z)) (A2_no (Or.inl za)).symm, h.f (fun x y q1 q2 q3 q4 q5 => by show up2 (up2 M 134 57 (-1)) 134 58 (-1) x y = M x y; rw [up2_nb (by omega), up2_nb (by omega)]) (hiS.rf R), fun x y q => by show up2 (up2 M 134 57 (-1)) 134 58 (-1) x y = M x y; rw [up2_nb (by omega), up2_nb (by omega)], loS.rf J, loS.rf R⟩
  by_cases zi : isIn (nI (s_n s)) i = 0
  · exact Cf.mono (c_X8_nearest_no hw hR (Or.inr (by rw [hn]; exact zi))) ⟨congrArg (fun z => some (Value.int z)) (A2_no (Or.inr zi)).symm, h.f (fun x y q1 q2 q3 q4 q5 => by show up2 (up2 M 134 57 (-1)) 134 58 (-1) x y = M x y; rw [up2_nb (by omega), up2_nb (by omega)]) (hiS.rf R), fun x y q => by show up2 (up2 M 134 57 (-1)) 134 58 (-1) x y = M x y; rw [up2_nb (by omega), up2_nb (by omega)], loS.rf J, loS.rf R⟩
  obtain ⟨j, hj, e⟩ := sh_nat za
  obtain ⟨k, hk, e2, hk2⟩ := in_nat zi
  subst e; subst e2
  refine Ct.mono (c_X8_nearest hw hR hj o3 hn hk (hP j hj) (o2 j hj) (hI k hk) (o4 k hk)) (fun v u z => ?_)
  obtain ⟨z1, z2, z3, z4⟩ := z
  refine ⟨z1.trans (congrArg (fun y => some (Value.int y)) (A2_ok (f := (fun P I => (NEAR P I).1)) za zi hj hk2).symm), h.f (fun x y q1 q2 q3 q4 q5 => z4 x y (by omega) (by omega)) (fun x y _ => by rw [z3]), fun x y q => z4 x y (by omega) (by omega), fun x y _ => by rw [z2], fun x y _ => by rw [z3]⟩

theorem C8_nearestByte {l : Launch} {D : va_G} {w : gw} {M : Nat → Nat → Int32} {J : Nat → Nat → Int64} {R : Nat → Nat → Option Nat} {s : aSt} (hw : w.1 = 166) (ho : okSt s) (h : repM M J R s) {a i : Int32} : Ct l yX8_nearestByte wsX8_nearestByte ({ frames := 4, cells := 0, slots := 0, locals := 100 } : Room) D w [.ref (w.2.1 134), .int a, .int i] (M, J, R) (postM M J R s (A_2 s a i (fun P I => (NEAR P I).2))) := by
  obtain ⟨hR, hT, hP, hn, hI, hf1, hf2, hrun, hS⟩ := id h
  obtain ⟨o1, o2, o3, o4, o5, o6⟩ := id ho
  by_cases za : isSh a = 0
  · exact Cf.mono (c_X8_nearestByte_no hw hR (Or.inl za)) ⟨congrArg (fun z => some (Value.int z)) (A2_no (Or.inl za)).symm, h.f (fun x y q1 q2 q3 q4 q5 => by show up2 (up2 M 134 57 (-1)) 134 58 (-1) x y = M x y; rw [up2_nb (by omega), up2_nb (by omega)]) (hiS.rf R), fun x y q => by show up2 (up2 M 134 57 (-1)) 134 58 (-1) x y = M x y; rw [up2_nb (by omega), up2_nb (by omega)], loS.rf J, loS.rf R⟩
  by_cases zi : isIn (nI (s_n s)) i = 0
  · exact Cf.mono (c_X8_nearestByte_no hw hR (Or.inr (by rw [hn]; exact zi))) ⟨congrArg (fun z => some (Value.int z)) (A2_no (Or.inr zi)).symm, h.f (fun x y q1 q2 q3 q4 q5 => by show up2 (up2 M 134 57 (-1)) 134 58 (-1) x y = M x y; rw [up2_nb (by omega), up2_nb (by omega)]) (hiS.rf R), fun x y q => by show up2 (up2 M 134 57 (-1)) 134 58 (-1) x y = M x y; rw [up2_nb (by omega), up2_nb (by omega)], loS.rf J, loS.rf R⟩
  obtain ⟨j, hj, e⟩ := sh_nat za
  obtain ⟨k, hk, e2, hk2⟩ := in_nat zi
  subst e; subst e2
  refine Ct.mono (c_X8_nearestByte hw hR hj o3 hn hk (hP j hj) (o2 j hj) (hI k hk) (o4 k hk)) (fun v u z => ?_)
  obtain ⟨z1, z2, z3, z4⟩ := z
  refine ⟨z1.trans (congrArg (fun y => some (Value.int y)) (A2_ok (f := (fun P I => (NEAR P I).2)) za zi hj hk2).symm), h.f (fun x y q1 q2 q3 q4 q5 => z4 x y (by omega) (by omega)) (fun x y _ => by rw [z3]), fun x y q => z4 x y (by omega) (by omega), fun x y _ => by rw [z2], fun x y _ => by rw [z3]⟩

theorem C7_held {l : Launch} {D : va_G} {w : gw} {M : Nat → Nat → Int32} {J : Nat → Nat → Int64} {R : Nat → Nat → Option Nat} {s : aSt} (hw : w.1 = 166) (ho : okSt s) (h : repC M J R s) {a b i : Int32} : Ct l yX7_held wsX7_held ({ frames := 5, cells := 0, slots := 0, locals := 122 } : Room) D w [.ref (w.2.1 0), .int a, .int b, .int i] (M, J, R) (pstC M J R s (A_held s a b i)) := by
  obtain ⟨hR, ⟨π, ip, hsh⟩, hT, hn, hI, hf1, hf2, hnm, hrun, hS, hW⟩ := id h
  obtain ⟨o1, o2, o3, o4, o5, o6⟩ := id ho
  by_cases za : isSh a = 0
  · exact Cf.mono (c_X7_held_no hw hR (Or.inl za)) ⟨congrArg (fun z => some (Value.int z)) (show (-1 : Int32) = A_held s a b i by unfold A_held; rw [if_pos za]), h, hiS.rf M, hiS.rf J, hiS.rf R⟩
  by_cases zb : isSh b = 0
  · exact Cf.mono (c_X7_held_no hw hR (Or.inr (Or.inl zb))) ⟨congrArg (fun z => some (Value.int z)) (show (-1 : Int32) = A_held s a b i by unfold A_held; rw [if_neg za, if_pos zb]), h, hiS.rf M, hiS.rf J, hiS.rf R⟩
  by_cases zi : isIn (nI (s_n s)) i = 0
  · exact Cf.mono (c_X7_held_no hw hR (Or.inr (Or.inr (by rw [hn]; exact zi)))) ⟨congrArg (fun z => some (Value.int z)) (show (-1 : Int32) = A_held s a b i by unfold A_held; rw [if_neg za, if_neg zb, if_pos zi]), h, hiS.rf M, hiS.rf J, hiS.rf R⟩
  obtain ⟨j, hj, e⟩ := sh_nat za
  obtain ⟨j2, hj2, e3⟩ := sh_nat zb
  obtain ⟨k, hk, e2, hk2⟩ := in_nat zi
  subst e; subst e2; subst e3
  refine Ct.mono (c_X7_held (π := π) hw hR (hsh.hS hw hR) hj hj2 o3 hn hk (hsh.1 j hj).2.2.2 (hsh.1 j2 hj2).2.2.2 (o2 j hj).1 (o2 j2 hj2).1 (hI k hk)) (fun v u z => ?_)
  obtain ⟨z1, z2, z3, z4⟩ := z
  refine ⟨z1.trans (congrArg (fun y => some (Value.int y)) (show _ = A_held s (nI j) (nI j2) (nI k) by unfold A_held; rw [if_neg za, if_neg zb, if_neg zi, nI_clamp (by omega), nI_clamp (by omega), nI_clamp hk2])), h.f (fun x y q1 q2 q3 => z4 x y (by omega)) (fun y => by rw [z2]) (fun x y _ => by rw [z3]) o3, fun x y q => z4 x y (by omega), fun x y _ => by rw [z2], fun x y _ => by rw [z3]⟩

theorem C8_held {l : Launch} {D : va_G} {w : gw} {M : Nat → Nat → Int32} {J : Nat → Nat → Int64} {R : Nat → Nat → Option Nat} {s : aSt} (hw : w.1 = 166) (ho : okSt s) (h : repM M J R s) {a b i : Int32} : Ct l yX8_held wsX8_held ({ frames := 3, cells := 0, slots := 0, locals := 75 } : Room) D w [.ref (w.2.1 134), .int a, .int b, .int i] (M, J, R) (postM M J R s (A_held s a b i)) := by
  obtain ⟨hR, hT, hP, hn, hI, hf1, hf2, hrun, hS⟩ := id h
  obtain ⟨o1, o2, o3, o4, o5, o6⟩ := id ho
  by_cases za : isSh a = 0
  · exact Cf.mono (c_X8_held_no hw hR (Or.inl za)) ⟨congrArg (fun z => some (Value.int z)) (show (-1 : Int32) = A_held s a b i by unfold A_held; rw [if_pos za]), h, loS.rf M, loS.rf J, loS.rf R⟩
  by_cases zb : isSh b = 0
  · exact Cf.mono (c_X8_held_no hw hR (Or.inr (Or.inl zb))) ⟨congrArg (fun z => some (Value.int z)) (show (-1 : Int32) = A_held s a b i by unfold A_held; rw [if_neg za, if_pos zb]), h, loS.rf M, loS.rf J, loS.rf R⟩
  by_cases zi : isIn (nI (s_n s)) i = 0
  · exact Cf.mono (c_X8_held_no hw hR (Or.inr (Or.inr (by rw [hn]; exact zi)))) ⟨congrArg (fun z => some (Value.int z)) (show (-1 : Int32) = A_held s a b i by unfold A_held; rw [if_neg za, if_neg zb, if_pos zi]), h, loS.rf M, loS.rf J, loS.rf R⟩
  obtain ⟨j, hj, e⟩ := sh_nat za
  obtain ⟨j2, hj2, e3⟩ := sh_nat zb
  obtain ⟨k, hk, e2, hk2⟩ := in_nat zi
  subst e; subst e2; subst e3
  refine Ct.mono (c_X8_held hw hR hj hj2 o3 hn hk (hP j hj) (hP j2 hj2) (o2 j hj) (o2 j2 hj2) (hI k hk) (o4 k hk)) (fun v u z => ?_)
  obtain ⟨z1, z2, z3, z4⟩ := z
  refine ⟨z1.trans (congrArg (fun y => some (Value.int y)) (show _ = A_held s (nI j) (nI j2) (nI k) by unfold A_held; rw [if_neg za, if_neg zb, if_neg zi, nI_clamp (by omega), nI_clamp (by omega), nI_clamp hk2])), h.f (fun x y q1 q2 q3 q4 q5 => z4 x y (by omega) (by omega) (by omega)) (fun x y _ => by rw [z3]), fun x y q => z4 x y (by omega) (by omega) (by omega), fun x y _ => by rw [z2], fun x y _ => by rw [z3]⟩

theorem isP4.h {p : Nat} (h : isP4 p) : ¬ (25 ≤ p ∧ p ≤ 34) ∧ (p + 4 < 25 ∨ 34 < p) := by
  rcases h with rfl | rfl | rfl | rfl <;> omega
theorem isP4.h2 {p : Nat} (h : isP4 p) : p + 4 < 25 ∨ 41 < p := by
  rcases h with rfl | rfl | rfl | rfl <;> omega
theorem le5 {x : Int32} (h : x < 6) : x ≤ 5 := by
  rw [Int32.lt_iff_toInt_lt] at h
  rw [Int32.le_iff_toInt_le]
  have c6 : (6 : Int32).toInt = 6 := by decide
  have c5 : (5 : Int32).toInt = 5 := by decide
  omega

theorem C7_heldAll {l : Launch} {D : va_G} {w : gw} {M : Nat → Nat → Int32} {J : Nat → Nat → Int64} {R : Nat → Nat → Option Nat} {s : aSt} (hw : w.1 = 166) (ho : okSt s) (h : repC M J R s) {a b how : Int32} : Ct l yX7_heldAll wsX7_heldAll ({ frames := 5, cells := 0, slots := 0, locals := 122 } : Room) D w [.ref (w.2.1 0), .int a, .int b, .int how] (M, J, R) (pstC M J R s (A_heldAll s a b how)) := by
  obtain ⟨hR, ⟨π, ip, hsh⟩, hT, hn, hI, hf1, hf2, hnm, hrun, hS, hW⟩ := id h
  obtain ⟨o1, o2, o3, o4, o5, o6⟩ := id ho
  by_cases za : isSh a = 0
  · exact Cf.mono (c_X7_heldAll_no hw hR (Or.inl za)) ⟨congrArg (fun z => some (Value.int z)) (show (-1 : Int32) = A_heldAll s a b how by unfold A_heldAll; rw [if_pos za]), h, hiS.rf M, hiS.rf J, hiS.rf R⟩
  by_cases zb : isSh b = 0
  · exact Cf.mono (c_X7_heldAll_no hw hR (Or.inr (Or.inl zb))) ⟨congrArg (fun z => some (Value.int z)) (show (-1 : Int32) = A_heldAll s a b how by unfold A_heldAll; rw [if_neg za, if_pos zb]), h, hiS.rf M, hiS.rf J, hiS.rf R⟩
  by_cases z0 : how < 0
  · exact Cf.mono (c_X7_heldAll_no hw hR (Or.inr (Or.inr (Or.inl z0)))) ⟨congrArg (fun z => some (Value.int z)) (show (-1 : Int32) = A_heldAll s a b how by unfold A_heldAll; rw [if_neg za, if_neg zb, if_pos z0]), h, hiS.rf M, hiS.rf J, hiS.rf R⟩
  by_cases z6 : how < 6
  rotate_left
  · exact Cf.mono (c_X7_heldAll_no hw hR (Or.inr (Or.inr (Or.inr (le_of_nlt z6))))) ⟨congrArg (fun z => some (Value.int z)) (show (-1 : Int32) = A_heldAll s a b how by unfold A_heldAll; rw [if_neg za, if_neg zb, if_neg z0, if_neg z6]), h, hiS.rf M, hiS.rf J, hiS.rf R⟩
  obtain ⟨j, hj, e⟩ := sh_nat za
  obtain ⟨j2, hj2, e3⟩ := sh_nat zb
  subst e; subst e3
  refine Ct.mono (c_X7_heldAll (π := π) hw hR (hsh.hS hw hR) hj hj2 z0 z6 o3 hn (hsh.1 j hj).2.1.h (hsh.1 j2 hj2).2.1.h (hsh.1 j hj).2.2.2 (hsh.1 j2 hj2).2.2.2 (o2 j hj).1 (o2 j2 hj2).1 hI) (fun v u z => ?_)
  obtain ⟨z1, z2, z3, z4⟩ := z
  refine ⟨z1.trans (congrArg (fun y => some (Value.int y)) (show _ = A_heldAll s (nI j) (nI j2) how by unfold A_heldAll; rw [if_neg za, if_neg zb, if_neg z0, if_pos z6, nI_clamp (by omega), nI_clamp (by omega)])), h.f (fun x y q1 q2 q3 => z4 x y (by omega)) (fun y => by rw [z2]) (fun x y _ => by rw [z3]) o3, fun x y q => z4 x y (by omega), fun x y _ => by rw [z2], fun x y _ => by rw [z3]⟩

theorem C8_heldAll {l : Launch} {D : va_G} {w : gw} {M : Nat → Nat → Int32} {J : Nat → Nat → Int64} {R : Nat → Nat → Option Nat} {s : aSt} (hw : w.1 = 166) (ho : okSt s) (h : repM M J R s) {a b how : Int32} : Ct l yX8_heldAll wsX8_heldAll ({ frames := 4, cells := 0, slots := 0, locals := 101 } : Room) D w [.ref (w.2.1 134), .int a, .int b, .int how] (M, J, R) (postM M J R s (A_heldAll s a b how)) := by
  obtain ⟨hR, hT, hP, hn, hI, hf1, hf2, hrun, hS⟩ := id h
  obtain ⟨o1, o2, o3, o4, o5, o6⟩ := id ho
  by_cases za : isSh a = 0
  · exact Cf.mono (c_X8_heldAll_no hw hR (Or.inl za)) ⟨congrArg (fun z => some (Value.int z)) (show (-1 : Int32) = A_heldAll s a b how by unfold A_heldAll; rw [if_pos za]), h, loS.rf M, loS.rf J, loS.rf R⟩
  by_cases zb : isSh b = 0
  · exact Cf.mono (c_X8_heldAll_no hw hR (Or.inr (Or.inl zb))) ⟨congrArg (fun z => some (Value.int z)) (show (-1 : Int32) = A_heldAll s a b how by unfold A_heldAll; rw [if_neg za, if_pos zb]), h, loS.rf M, loS.rf J, loS.rf R⟩
  by_cases z0 : how < 0
  · exact Cf.mono (c_X8_heldAll_no hw hR (Or.inr (Or.inr (Or.inl z0)))) ⟨congrArg (fun z => some (Value.int z)) (show (-1 : Int32) = A_heldAll s a b how by unfold A_heldAll; rw [if_neg za, if_neg zb, if_pos z0]), h, loS.rf M, loS.rf J, loS.rf R⟩
  by_cases z6 : how < 6
  rotate_left
  · exact Cf.mono (c_X8_heldAll_no hw hR (Or.inr (Or.inr (Or.inr (fun y => z6 (Int32.lt_of_le_of_lt y (by decide))))))) ⟨congrArg (fun z => some (Value.int z)) (show (-1 : Int32) = A_heldAll s a b how by unfold A_heldAll; rw [if_neg za, if_neg zb, if_neg z0, if_neg z6]), h, loS.rf M, loS.rf J, loS.rf R⟩
  obtain ⟨j, hj, e⟩ := sh_nat za
  obtain ⟨j2, hj2, e3⟩ := sh_nat zb
  subst e; subst e3
  refine Ct.mono (c_X8_heldAll hw hR hj hj2 z0 (le5 z6) o3 hn (hP j hj) (hP j2 hj2) (o2 j hj) (o2 j2 hj2) hI o4) (fun v u z => ?_)
  obtain ⟨z1, z2, z3, z4⟩ := z
  refine ⟨z1.trans (congrArg (fun y => some (Value.int y)) (show _ = A_heldAll s (nI j) (nI j2) how by unfold A_heldAll; rw [if_neg za, if_neg zb, if_neg z0, if_pos z6, nI_clamp (by omega), nI_clamp (by omega)])), h.f (fun x y q1 q2 q3 q4 q5 => z4 x y (by omega) (by omega) (by omega)) (fun x y _ => by rw [z3]), fun x y q => z4 x y (by omega) (by omega) (by omega), fun x y _ => by rw [z2], fun x y _ => by rw [z3]⟩

theorem C7_heaps {l : Launch} {D : va_G} {w : gw} {M : Nat → Nat → Int32} {J : Nat → Nat → Int64} {R : Nat → Nat → Option Nat} {s : aSt} (hw : w.1 = 166) (ho : okSt s) (h : repC M J R s) {a : Int32} : Ct l yX7_heaps wsX7_heaps ({ frames := 5, cells := 0, slots := 0, locals := 119 } : Room) D w [.ref (w.2.1 0), .int a] (M, J, R) (pstC M J R s (A_heaps s a)) := by
  obtain ⟨hR, ⟨π, ip, hsh⟩, hT, hn, hI, hf1, hf2, hnm, hrun, hS, hW⟩ := id h
  obtain ⟨o1, o2, o3, o4, o5, o6⟩ := id ho
  by_cases za : isSh a = 0
  · exact Cf.mono (c_X7_heaps_no hw hR za) ⟨congrArg (fun z => some (Value.int z)) (show (-1 : Int32) = A_heaps s a by unfold A_heaps; rw [if_pos za]), h, hiS.rf M, hiS.rf J, hiS.rf R⟩
  obtain ⟨j, hj, e⟩ := sh_nat za
  subst e
  refine Ct.mono (c_X7_heaps (π := π) hw hR (hsh.hS hw hR) hj o3 hn (hsh.1 j hj).2.1.h2 (hsh.1 j hj).2.2.2 (o2 j hj).1 hI) (fun v u z => ?_)
  obtain ⟨z1, z2, z3, z4⟩ := z
  refine ⟨z1.trans (congrArg (fun y => some (Value.int y)) (show _ = A_heaps s (nI j) by unfold A_heaps; rw [if_neg za, nI_clamp (by omega)])), h.f (fun x y q1 q2 q3 => z4 x y (by omega) (by omega)) (fun y => by rw [z2]) (fun x y _ => by rw [z3]) o3, fun x y q => z4 x y (by omega) (by omega), fun x y _ => by rw [z2], fun x y _ => by rw [z3]⟩

theorem C7_heap {l : Launch} {D : va_G} {w : gw} {M : Nat → Nat → Int32} {J : Nat → Nat → Int64} {R : Nat → Nat → Option Nat} {s : aSt} (hw : w.1 = 166) (ho : okSt s) (h : repC M J R s) {a k x : Int32} : Ct l yX7_heap wsX7_heap ({ frames := 5, cells := 0, slots := 0, locals := 119 } : Room) D w [.ref (w.2.1 0), .int a, .int k, .int x] (M, J, R) (pstC M J R s (A_heap s a k x)) := by
  obtain ⟨hR, ⟨π, ip, hsh⟩, hT, hn, hI, hf1, hf2, hnm, hrun, hS, hW⟩ := id h
  obtain ⟨o1, o2, o3, o4, o5, o6⟩ := id ho
  by_cases za : isSh a = 0
  · exact Cf.mono (c_X7_heap_no hw hR za) ⟨congrArg (fun z => some (Value.int z)) (show (-1 : Int32) = A_heap s a k x by unfold A_heap; rw [if_pos za]), h, hiS.rf M, hiS.rf J, hiS.rf R⟩
  obtain ⟨j, hj, e⟩ := sh_nat za
  subst e
  refine Ct.mono (c_X7_heap (π := π) hw hR (hsh.hS hw hR) hj o3 hn (hsh.1 j hj).2.1.h2 (hsh.1 j hj).2.2.2 (o2 j hj).1 hI) (fun v u z => ?_)
  obtain ⟨z1, z2, z3, z4⟩ := z
  refine ⟨z1.trans (congrArg (fun y => some (Value.int y)) (show _ = A_heap s (nI j) k x by unfold A_heap; rw [if_neg za, nI_clamp (by omega)])), h.f (fun x y q1 q2 q3 => z4 x y (by omega) (by omega)) (fun y => by rw [z2]) (fun x y _ => by rw [z3]) o3, fun x y q => z4 x y (by omega) (by omega), fun x y _ => by rw [z2], fun x y _ => by rw [z3]⟩

theorem C7_heapOf {l : Launch} {D : va_G} {w : gw} {M : Nat → Nat → Int32} {J : Nat → Nat → Int64} {R : Nat → Nat → Option Nat} {s : aSt} (hw : w.1 = 166) (ho : okSt s) (h : repC M J R s) {a i : Int32} : Ct l yX7_heapOf wsX7_heapOf ({ frames := 5, cells := 0, slots := 0, locals := 119 } : Room) D w [.ref (w.2.1 0), .int a, .int i] (M, J, R) (pstC M J R s (A_heapOf s a i)) := by
  obtain ⟨hR, ⟨π, ip, hsh⟩, hT, hn, hI, hf1, hf2, hnm, hrun, hS, hW⟩ := id h
  obtain ⟨o1, o2, o3, o4, o5, o6⟩ := id ho
  by_cases za : isSh a = 0
  · exact Cf.mono (c_X7_heapOf_no hw hR (Or.inl za)) ⟨congrArg (fun z => some (Value.int z)) (show (-1 : Int32) = A_heapOf s a i by unfold A_heapOf; rw [if_pos za]), h, hiS.rf M, hiS.rf J, hiS.rf R⟩
  by_cases zi : isIn (nI (s_n s)) i = 0
  · exact Cf.mono (c_X7_heapOf_no hw hR (Or.inr (by rw [hn]; exact zi))) ⟨congrArg (fun z => some (Value.int z)) (show (-1 : Int32) = A_heapOf s a i by unfold A_heapOf; rw [if_neg za, if_pos zi]), h, hiS.rf M, hiS.rf J, hiS.rf R⟩
  obtain ⟨k, hk, e2, hk2⟩ := in_nat zi
  subst e2
  obtain ⟨j, hj, e⟩ := sh_nat za
  subst e
  refine Ct.mono (c_X7_heapOf (π := π) hw hR (hsh.hS hw hR) hj o3 hn (hsh.1 j hj).2.1.h2 (hsh.1 j hj).2.2.2 (o2 j hj).1 hI hk) (fun v u z => ?_)
  obtain ⟨z1, z2, z3, z4⟩ := z
  refine ⟨z1.trans (congrArg (fun y => some (Value.int y)) (show _ = A_heapOf s (nI j) (nI k) by unfold A_heapOf; rw [if_neg za, if_neg zi, nI_clamp (by omega), nI_clamp hk2])), h.f (fun x y q1 q2 q3 => z4 x y (by omega) (by omega)) (fun y => by rw [z2]) (fun x y _ => by rw [z3]) o3, fun x y q => z4 x y (by omega) (by omega), fun x y _ => by rw [z2], fun x y _ => by rw [z3]⟩

theorem C8_heaps {l : Launch} {D : va_G} {w : gw} {M : Nat → Nat → Int32} {J : Nat → Nat → Int64} {R : Nat → Nat → Option Nat} {s : aSt} (hw : w.1 = 166) (ho : okSt s) (h : repM M J R s) {a : Int32} : Ct l yX8_heaps wsX8_heaps ({ frames := 4, cells := 0, slots := 0, locals := 98 } : Room) D w [.ref (w.2.1 134), .int a] (M, J, R) (postM M J R s (A_heaps s a)) := by
  obtain ⟨hR, hT, hP, hn, hI, hf1, hf2, hrun, hS⟩ := id h
  obtain ⟨o1, o2, o3, o4, o5, o6⟩ := id ho
  by_cases za : isSh a = 0
  · exact Cf.mono (c_X8_heaps_no hw hR za) ⟨congrArg (fun z => some (Value.int z)) (show (-1 : Int32) = A_heaps s a by unfold A_heaps; rw [if_pos za]), h, loS.rf M, loS.rf J, loS.rf R⟩
  obtain ⟨j, hj, e⟩ := sh_nat za
  subst e
  refine Ct.mono (c_X8_heaps hw hR hj o3 hn (hP j hj) (o2 j hj) hI o4) (fun v u z => ?_)
  obtain ⟨z1, z2, z3, z4⟩ := z
  refine ⟨z1.trans (congrArg (fun y => some (Value.int y)) (show _ = A_heaps s (nI j) by unfold A_heaps; rw [if_neg za, nI_clamp (by omega)])), h.f (fun x y q1 q2 q3 q4 q5 => z4 x y (by omega) (by omega) (by omega)) (fun x y _ => by rw [z3]), fun x y q => z4 x y (by omega) (by omega) (by omega), fun x y _ => by rw [z2], fun x y _ => by rw [z3]⟩

theorem C8_heap {l : Launch} {D : va_G} {w : gw} {M : Nat → Nat → Int32} {J : Nat → Nat → Int64} {R : Nat → Nat → Option Nat} {s : aSt} (hw : w.1 = 166) (ho : okSt s) (h : repM M J R s) {a k x : Int32} : Ct l yX8_heap wsX8_heap ({ frames := 4, cells := 0, slots := 0, locals := 98 } : Room) D w [.ref (w.2.1 134), .int a, .int k, .int x] (M, J, R) (postM M J R s (A_heap s a k x)) := by
  obtain ⟨hR, hT, hP, hn, hI, hf1, hf2, hrun, hS⟩ := id h
  obtain ⟨o1, o2, o3, o4, o5, o6⟩ := id ho
  by_cases za : isSh a = 0
  · exact Cf.mono (c_X8_heap_no hw hR za) ⟨congrArg (fun z => some (Value.int z)) (show (-1 : Int32) = A_heap s a k x by unfold A_heap; rw [if_pos za]), h, loS.rf M, loS.rf J, loS.rf R⟩
  obtain ⟨j, hj, e⟩ := sh_nat za
  subst e
  refine Ct.mono (c_X8_heap hw hR hj o3 hn (hP j hj) (o2 j hj) hI o4) (fun v u z => ?_)
  obtain ⟨z1, z2, z3, z4⟩ := z
  refine ⟨z1.trans (congrArg (fun y => some (Value.int y)) (show _ = A_heap s (nI j) k x by unfold A_heap; rw [if_neg za, nI_clamp (by omega)])), h.f (fun x y q1 q2 q3 q4 q5 => z4 x y (by omega) (by omega) (by omega)) (fun x y _ => by rw [z3]), fun x y q => z4 x y (by omega) (by omega) (by omega), fun x y _ => by rw [z2], fun x y _ => by rw [z3]⟩

theorem C8_heapOf {l : Launch} {D : va_G} {w : gw} {M : Nat → Nat → Int32} {J : Nat → Nat → Int64} {R : Nat → Nat → Option Nat} {s : aSt} (hw : w.1 = 166) (ho : okSt s) (h : repM M J R s) {a i : Int32} : Ct l yX8_heapOf wsX8_heapOf ({ frames := 4, cells := 0, slots := 0, locals := 98 } : Room) D w [.ref (w.2.1 134), .int a, .int i] (M, J, R) (postM M J R s (A_heapOf s a i)) := by
  obtain ⟨hR, hT, hP, hn, hI, hf1, hf2, hrun, hS⟩ := id h
  obtain ⟨o1, o2, o3, o4, o5, o6⟩ := id ho
  by_cases za : isSh a = 0
  · exact Cf.mono (c_X8_heapOf_no hw hR (Or.inl za)) ⟨congrArg (fun z => some (Value.int z)) (show (-1 : Int32) = A_heapOf s a i by unfold A_heapOf; rw [if_pos za]), h, loS.rf M, loS.rf J, loS.rf R⟩
  by_cases zi : isIn (nI (s_n s)) i = 0
  · exact Cf.mono (c_X8_heapOf_no hw hR (Or.inr (by rw [hn]; exact zi))) ⟨congrArg (fun z => some (Value.int z)) (show (-1 : Int32) = A_heapOf s a i by unfold A_heapOf; rw [if_neg za, if_pos zi]), h, loS.rf M, loS.rf J, loS.rf R⟩
  obtain ⟨k, hk, e2, hk2⟩ := in_nat zi
  subst e2
  obtain ⟨j, hj, e⟩ := sh_nat za
  subst e
  refine Ct.mono (c_X8_heapOf hw hR hj o3 hn (hP j hj) (o2 j hj) hI o4 hk) (fun v u z => ?_)
  obtain ⟨z1, z2, z3, z4⟩ := z
  refine ⟨z1.trans (congrArg (fun y => some (Value.int y)) (show _ = A_heapOf s (nI j) (nI k) by unfold A_heapOf; rw [if_neg za, if_neg zi, nI_clamp (by omega), nI_clamp hk2])), h.f (fun x y q1 q2 q3 q4 q5 => z4 x y (by omega) (by omega) (by omega)) (fun x y _ => by rw [z3]), fun x y q => z4 x y (by omega) (by omega) (by omega), fun x y _ => by rw [z2], fun x y _ => by rw [z3]⟩
