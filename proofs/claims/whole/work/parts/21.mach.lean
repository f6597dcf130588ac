/-! MACHINES (class 0) i: values i + 1, makers i + 2, bytes i + 3, told i + 4; fields 4 toldCount, 5 readCount, 6 steps, 7 ended, 8 endAct, 9 wrong, 10 wrongMaker, 11 wrongBytes, 12 next. PROGRAMS (class 2) p: kinds p + 1, firsts p + 2, seconds p + 3, numbers p + 4; field 4 count -/
abbrev tN (x : Int32) : Nat := x.toNatClampNeg
theorem in_mono {x : Int32} {a b : Nat} (h : vp_in x a) (hab : a ≤ b) : vp_in x b := by
  rw [vp_in_iff] at h ⊢; omega
theorem in40 {x : Int32} (h : vp_in x 8) : vp_in x 40 := in_mono h (by decide)
def m_make (M : Nat → Nat → Int32) (i : Nat) (x v a b : Int32) : Nat → Nat → Int32 := up2 (up2 (up2 M (i + 1) x.toNatClampNeg v) (i + 2) x.toNatClampNeg a) (i + 3) x.toNatClampNeg b
def m_carry (M : Nat → Nat → Int32) (i : Nat) (f t b : Int32) : Nat → Nat → Int32 := up2 (up2 (up2 M (i + 1) t.toNatClampNeg (M (i + 1) f.toNatClampNeg)) (i + 2) t.toNatClampNeg (M (i + 2) f.toNatClampNeg)) (i + 3) t.toNatClampNeg (M (i + 3) f.toNatClampNeg ||| b)
def m_bad (M : Nat → Nat → Int32) (i : Nat) (how a x : Int32) : Nat → Nat → Int32 := up2 (up2 (up2 (up2 (up2 M i 7 how) i 8 a) i 9 (M (i + 1) x.toNatClampNeg)) i 10 (M (i + 2) x.toNatClampNeg)) i 11 (M (i + 3) x.toNatClampNeg)
def m_tell (M : Nat → Nat → Int32) (i : Nat) (v : Int32) : Nat → Nat → Int32 := up2 (if 40 ≤ M i 4 then M else up2 M (i + 4) (M i 4).toNatClampNeg v) i 4 (M i 4 + 1)
def m_goIf (M : Nat → Nat → Int32) (i : Nat) (z a : Int32) : Nat → Nat → Int32 := if z = 0 then M else up2 M i 12 a
def m_jump (M : Nat → Nat → Int32) (i : Nat) (x a n : Int32) : Nat → Nat → Int32 := if M (i + 1) x.toNatClampNeg < 0 then m_bad M i 3 a x else if n ≤ M (i + 1) x.toNatClampNeg then m_bad M i 3 a x else up2 M i 12 (M (i + 1) x.toNatClampNeg)
def isPl (v : Int32) : Int32 := if v < 0 then 0 else if 32 ≤ v then 0 else 1
/-- a register, or the first one -/
def asR (v : Int32) : Int32 := if v < 0 then 0 else if 8 ≤ v then 0 else v
def m_load (M : Nat → Nat → Int32) (i : Nat) (r s a : Int32) : Nat → Nat → Int32 := if isPl (M (i + 1) s.toNatClampNeg) = 0 then m_bad M i 1 a s else m_carry M i (8 + M (i + 1) s.toNatClampNeg) r (M (i + 3) s.toNatClampNeg)
def m_store (M : Nat → Nat → Int32) (i : Nat) (r s a : Int32) : Nat → Nat → Int32 := if isPl (M (i + 1) r.toNatClampNeg) = 0 then m_bad M i 2 a r else m_carry M i s (8 + M (i + 1) r.toNatClampNeg) (M (i + 3) r.toNatClampNeg)
def m_read (M : Nat → Nat → Int32) (i : Nat) (r a : Int32) (q : Nat) : Nat → Nat → Int32 := if b_at M q (M i 5) = -1 then m_make M i r (-1) a 0 else up2 (m_make M i r (b_at M q (M i 5)) a (1 <<< (M i 5 &&& 31))) i 5 (M i 5 + 1)
def m_sw (M : Nat → Nat → Int32) (i : Nat) (k r s n a : Int32) (q : Nat) (cnt : Int32) : Nat → Nat → Int32 := if k = 0 then m_read M i r a q else if k = 1 then m_make M i r n a 0 else if k = 2 then m_carry M i s r 0 else if k = 3 then m_make M i r (M (i + 1) r.toNatClampNeg + M (i + 1) s.toNatClampNeg) a (M (i + 3) r.toNatClampNeg ||| M (i + 3) s.toNatClampNeg) else if k = 4 then m_make M i r (M (i + 1) r.toNatClampNeg - M (i + 1) s.toNatClampNeg) a (M (i + 3) r.toNatClampNeg ||| M (i + 3) s.toNatClampNeg) else if k = 5 then m_make M i r (M (i + 1) r.toNatClampNeg * M (i + 1) s.toNatClampNeg) a (M (i + 3) r.toNatClampNeg ||| M (i + 3) s.toNatClampNeg) else if k = 6 then m_load M i r s a else if k = 7 then m_store M i r s a else if k = 8 then m_goIf M i (if M (i + 1) s.toNatClampNeg ≤ M (i + 1) r.toNatClampNeg then 0 else 1) n else if k = 9 then m_goIf M i (if M (i + 1) r.toNatClampNeg = M (i + 1) s.toNatClampNeg then 1 else 0) n else if k = 10 then up2 M i 12 n else if k = 11 then m_jump M i r a cnt else if k = 12 then m_tell M i (M (i + 1) r.toNatClampNeg) else up2 M i 7 0
def m_fin (M : Nat → Nat → Int32) (i : Nat) : Nat → Nat → Int32 := if (if M i 8 = -1 then (0 : Int32) else 1) = 0 then up2 M i 6 (M i 6 + 1) else M
def m_act (M : Nat → Nat → Int32) (i p : Nat) (a : Int32) (q : Nat) : Nat → Nat → Int32 := m_fin (m_sw (up2 M i 12 (a + 1)) i (M (p + 1) a.toNatClampNeg) (M (p + 2) a.toNatClampNeg) (M (p + 3) a.toNatClampNeg) (M (p + 4) a.toNatClampNeg) a q (M p 4)) i
def m_one (M : Nat → Nat → Int32) (i p q : Nat) : Nat → Nat → Int32 := if M i 12 < 0 then up2 M i 7 0 else if M i 12 < M p 4 then (if M i 6 < 1000 then m_act M i p (M i 12) q else up2 M i 7 4) else up2 M i 7 0
def m_it (i p q : Nat) : Nat → (Nat → Nat → Int32) → Nat → Nat → Int32
  | 0, M => M
  | n + 1, M => if M i 7 = -1 then m_it i p q n (m_one M i p q) else M
def m_clear (M : Nat → Nat → Int32) (i : Nat) : Nat → Nat → Int32 := up2 (up2 (up2 (up2 (up2 (up2 (up2 (up2 (up2 (b_fill (b_fill (b_fill M (i + 1) 40 0) (i + 2) 40 (-1)) (i + 3) 40 0) i 4 0) i 5 0) i 6 0) i 7 (-1)) i 8 (-1)) i 9 0) i 10 (-1)) i 11 0) i 12 0
def m_run (M : Nat → Nat → Int32) (i p q : Nat) : Nat → Nat → Int32 := m_it i p q 1001 (m_clear M i)
/-- the registers that an act names are registers -/
def okA (k r s : Int32) : Prop := (k ≠ 10 → k ≠ 13 → vp_in r 8) ∧ (2 ≤ k ∧ k ≤ 9 → vp_in s 8)
def okP (M : Nat → Nat → Int32) (p : Nat) : Prop := ∃ n : Nat, n ≤ 80 ∧ M p 4 = nI n ∧ ∀ k, k < n → okA (M (p + 1) k) (M (p + 2) k) (M (p + 3) k)

theorem hdX0_clear : yX0_clear.cls = cR 0 ∧ yX0_clear.cls ≠ "java/lang/invoke/MethodHandle" ∧ yX0_clear.cls ≠ "java/lang/invoke/VarHandle" ∧ (parseMethodDescriptor yX0_clear.desc).map (fun d => d.parameters.length) = some 0 := by decide +kernel

theorem hdX0_doAct : yX0_doAct.cls = cR 0 ∧ yX0_doAct.cls ≠ "java/lang/invoke/MethodHandle" ∧ yX0_doAct.cls ≠ "java/lang/invoke/VarHandle" ∧ (parseMethodDescriptor yX0_doAct.desc).map (fun d => d.parameters.length) = some 3 := by decide +kernel

theorem hdX0_readByte : yX0_readByte.cls = cR 0 ∧ yX0_readByte.cls ≠ "java/lang/invoke/MethodHandle" ∧ yX0_readByte.cls ≠ "java/lang/invoke/VarHandle" ∧ (parseMethodDescriptor yX0_readByte.desc).map (fun d => d.parameters.length) = some 3 := by decide +kernel

theorem hdX0_load : yX0_load.cls = cR 0 ∧ yX0_load.cls ≠ "java/lang/invoke/MethodHandle" ∧ yX0_load.cls ≠ "java/lang/invoke/VarHandle" ∧ (parseMethodDescriptor yX0_load.desc).map (fun d => d.parameters.length) = some 3 := by decide +kernel

theorem hdX0_store : yX0_store.cls = cR 0 ∧ yX0_store.cls ≠ "java/lang/invoke/MethodHandle" ∧ yX0_store.cls ≠ "java/lang/invoke/VarHandle" ∧ (parseMethodDescriptor yX0_store.desc).map (fun d => d.parameters.length) = some 3 := by decide +kernel

theorem hdX0_jump : yX0_jump.cls = cR 0 ∧ yX0_jump.cls ≠ "java/lang/invoke/MethodHandle" ∧ yX0_jump.cls ≠ "java/lang/invoke/VarHandle" ∧ (parseMethodDescriptor yX0_jump.desc).map (fun d => d.parameters.length) = some 3 := by decide +kernel

theorem hdX0_goIf : yX0_goIf.cls = cR 0 ∧ yX0_goIf.cls ≠ "java/lang/invoke/MethodHandle" ∧ yX0_goIf.cls ≠ "java/lang/invoke/VarHandle" ∧ (parseMethodDescriptor yX0_goIf.desc).map (fun d => d.parameters.length) = some 2 := by decide +kernel

theorem hdX0_tell : yX0_tell.cls = cR 0 ∧ yX0_tell.cls ≠ "java/lang/invoke/MethodHandle" ∧ yX0_tell.cls ≠ "java/lang/invoke/VarHandle" ∧ (parseMethodDescriptor yX0_tell.desc).map (fun d => d.parameters.length) = some 1 := by decide +kernel

theorem hdX0_make : yX0_make.cls = cR 0 ∧ yX0_make.cls ≠ "java/lang/invoke/MethodHandle" ∧ yX0_make.cls ≠ "java/lang/invoke/VarHandle" ∧ (parseMethodDescriptor yX0_make.desc).map (fun d => d.parameters.length) = some 4 := by decide +kernel

theorem hdX0_carry : yX0_carry.cls = cR 0 ∧ yX0_carry.cls ≠ "java/lang/invoke/MethodHandle" ∧ yX0_carry.cls ≠ "java/lang/invoke/VarHandle" ∧ (parseMethodDescriptor yX0_carry.desc).map (fun d => d.parameters.length) = some 3 := by decide +kernel

theorem hdX0_endBadly : yX0_endBadly.cls = cR 0 ∧ yX0_endBadly.cls ≠ "java/lang/invoke/MethodHandle" ∧ yX0_endBadly.cls ≠ "java/lang/invoke/VarHandle" ∧ (parseMethodDescriptor yX0_endBadly.desc).map (fun d => d.parameters.length) = some 3 := by decide +kernel

theorem hdX0_endedAtAct : yX0_endedAtAct.cls = cR 0 ∧ yX0_endedAtAct.cls ≠ "java/lang/invoke/MethodHandle" ∧ yX0_endedAtAct.cls ≠ "java/lang/invoke/VarHandle" ∧ (parseMethodDescriptor yX0_endedAtAct.desc).map (fun d => d.parameters.length) = some 0 := by decide +kernel

theorem hdX0_hasCauseOf : yX0_hasCauseOf.cls = cR 0 ∧ yX0_hasCauseOf.cls ≠ "java/lang/invoke/MethodHandle" ∧ yX0_hasCauseOf.cls ≠ "java/lang/invoke/VarHandle" ∧ (parseMethodDescriptor yX0_hasCauseOf.desc).map (fun d => d.parameters.length) = some 1 := by decide +kernel

theorem hdX0_toldTheSame : yX0_toldTheSame.cls = cR 0 ∧ yX0_toldTheSame.cls ≠ "java/lang/invoke/MethodHandle" ∧ yX0_toldTheSame.cls ≠ "java/lang/invoke/VarHandle" ∧ (parseMethodDescriptor yX0_toldTheSame.desc).map (fun d => d.parameters.length) = some 1 := by decide +kernel

theorem hdX0_runWhole : yX0_runWhole.cls = cR 0 ∧ yX0_runWhole.cls ≠ "java/lang/invoke/MethodHandle" ∧ yX0_runWhole.cls ≠ "java/lang/invoke/VarHandle" ∧ (parseMethodDescriptor yX0_runWhole.desc).map (fun d => d.parameters.length) = some 2 := by decide +kernel

theorem hdX0_isPlace : yX0_isPlace.cls ≠ "java/lang/invoke/MethodHandle" ∧ yX0_isPlace.cls ≠ "java/lang/invoke/VarHandle" ∧ (parseMethodDescriptor yX0_isPlace.desc).map (fun d => d.parameters.length) = some 1 := by decide +kernel

theorem hdX0_asRegister : yX0_asRegister.cls ≠ "java/lang/invoke/MethodHandle" ∧ yX0_asRegister.cls ≠ "java/lang/invoke/VarHandle" ∧ (parseMethodDescriptor yX0_asRegister.desc).map (fun d => d.parameters.length) = some 1 := by decide +kernel

set_option maxHeartbeats 4000000 in
set_option maxRecDepth 100000 in
theorem c_X0_make {l : Launch} {D : va_G} {w : gw} {M : Nat → Nat → Int32} {J : Nat → Nat → Int64} {R : Nat → Nat → Option Nat} {i : Nat} {x v a b : Int32} (hi : isMach w R i) (hx : vp_in x 40) : Cf l yX0_make wsX0_make ({ frames := 0, cells := 0, slots := 0, locals := 0 } : Room) D w [.ref (w.2.1 i), .int x, .int v, .int a, .int b] M J R none (m_make M i x v a b) J R := by
  obtain ⟨i_hi4, i_k, i_k1, i_k2, i_k3, i_k4, i_l1, i_l2, i_l3, i_l4, i_r0, i_r1, i_r2, i_r3⟩ := id hi
  have i_hi : i < w.1 := by omega
  have i_hi1 : i + 1 < w.1 := by omega
  have i_hi2 : i + 2 < w.1 := by omega
  have i_hi3 : i + 3 < w.1 := by omega
  refine Cg.of (own := RX0) (cc := cX0_make) (maxL := 5) (ret := none) 0 (by decide) rfl rfl (Nat.le_of_ble_eq_true rfl) (fun X C hts V Rr => ?_)
  have F0 : FW X 0 := fun q h => hts q (List.mem_cons_of_mem _ (List.mem_append_right _ h))
  show Gj X 0 0 w M J R 0 [some (.ref (w.2.1 i)), some (.int x), some (.int v), some (.int a), some (.int b)] []
  refine g_aload_n C dX0_make_0 rfl ?_
  refine g_getr (j := (i + 1)) C F0 i_hi i_k (by decide) 0 (by decide) rfl (hts (.fieldLink RX0 9 "FallBench$Machine" "values" "[I") (by decide +kernel)) rfl i_r0 dX0_make_1 ?_
  refine g_iload_n C dX0_make_4 rfl ?_
  refine g_iload_n C dX0_make_5 rfl ?_
  refine g_iast C i_hi1 i_k1 (by rw [i_l1]; exact hx) dX0_make_6 ?_
  refine g_aload_n C dX0_make_7 rfl ?_
  refine g_getr (j := (i + 2)) C F0 i_hi i_k (by decide) 1 (by decide) rfl (hts (.fieldLink RX0 15 "FallBench$Machine" "makers" "[I") (by decide +kernel)) rfl i_r1 dX0_make_8 ?_
  refine g_iload_n C dX0_make_11 rfl ?_
  refine g_iload_n C dX0_make_12 rfl ?_
  refine g_iast C i_hi2 i_k2 (by rw [i_l2]; exact hx) dX0_make_13 ?_
  refine g_aload_n C dX0_make_14 rfl ?_
  refine g_getr (j := (i + 3)) C F0 i_hi i_k (by decide) 2 (by decide) rfl (hts (.fieldLink RX0 18 "FallBench$Machine" "bytes" "[I") (by decide +kernel)) rfl i_r2 dX0_make_15 ?_
  refine g_iload_n C dX0_make_18 rfl ?_
  refine g_iload C dX0_make_19 rfl ?_
  refine g_iast C i_hi3 i_k3 (by rw [i_l3]; exact hx) dX0_make_21 ?_
  exact g_vret C Rr ⟨rfl, ⟨rfl, rfl⟩⟩ dX0_make_22

set_option maxHeartbeats 4000000 in
set_option maxRecDepth 100000 in
theorem c_X0_carry {l : Launch} {D : va_G} {w : gw} {M : Nat → Nat → Int32} {J : Nat → Nat → Int64} {R : Nat → Nat → Option Nat} {i : Nat} {f t b : Int32} (hi : isMach w R i) (hf : vp_in f 40) (ht : vp_in t 40) : Cf l yX0_carry wsX0_carry ({ frames := 0, cells := 0, slots := 0, locals := 0 } : Room) D w [.ref (w.2.1 i), .int f, .int t, .int b] M J R none (m_carry M i f t b) J R := by
  obtain ⟨i_hi4, i_k, i_k1, i_k2, i_k3, i_k4, i_l1, i_l2, i_l3, i_l4, i_r0, i_r1, i_r2, i_r3⟩ := id hi
  have i_hi : i < w.1 := by omega
  have i_hi1 : i + 1 < w.1 := by omega
  have i_hi2 : i + 2 < w.1 := by omega
  have i_hi3 : i + 3 < w.1 := by omega
  refine Cg.of (own := RX0) (cc := cX0_carry) (maxL := 4) (ret := none) 0 (by decide) rfl rfl (Nat.le_of_ble_eq_true rfl) (fun X C hts V Rr => ?_)
  have F0 : FW X 0 := fun q h => hts q (List.mem_cons_of_mem _ (List.mem_append_right _ h))
  show Gj X 0 0 w M J R 0 [some (.ref (w.2.1 i)), some (.int f), some (.int t), some (.int b)] []
  refine g_aload_n C dX0_carry_0 rfl ?_
  refine g_getr (j := (i + 1)) C F0 i_hi i_k (by decide) 0 (by decide) rfl (hts (.fieldLink RX0 9 "FallBench$Machine" "values" "[I") (by decide +kernel)) rfl i_r0 dX0_carry_1 ?_
  refine g_iload_n C dX0_carry_4 rfl ?_
  refine g_aload_n C dX0_carry_5 rfl ?_
  refine g_getr (j := (i + 1)) C F0 i_hi i_k (by decide) 0 (by decide) rfl (hts (.fieldLink RX0 9 "FallBench$Machine" "values" "[I") (by decide +kernel)) rfl i_r0 dX0_carry_6 ?_
  refine g_iload_n C dX0_carry_9 rfl ?_
  refine g_iald C i_hi1 i_k1 (by rw [i_l1]; exact hf) rfl dX0_carry_10 ?_
  refine g_iast C i_hi1 i_k1 (by rw [i_l1]; exact ht) dX0_carry_11 ?_
  refine g_aload_n C dX0_carry_12 rfl ?_
  refine g_getr (j := (i + 2)) C F0 i_hi i_k (by decide) 1 (by decide) rfl (hts (.fieldLink RX0 15 "FallBench$Machine" "makers" "[I") (by decide +kernel)) rfl i_r1 dX0_carry_13 ?_
  refine g_iload_n C dX0_carry_16 rfl ?_
  refine g_aload_n C dX0_carry_17 rfl ?_
  refine g_getr (j := (i + 2)) C F0 i_hi i_k (by decide) 1 (by decide) rfl (hts (.fieldLink RX0 15 "FallBench$Machine" "makers" "[I") (by decide +kernel)) rfl i_r1 dX0_carry_18 ?_
  refine g_iload_n C dX0_carry_21 rfl ?_
  refine g_iald (v := M (i + 2) f.toNatClampNeg) C i_hi2 i_k2 (by rw [i_l2]; exact hf) (up2_n1 _ _ (by omega)) dX0_carry_22 ?_
  refine g_iast C i_hi2 i_k2 (by rw [i_l2]; exact ht) dX0_carry_23 ?_
  refine g_aload_n C dX0_carry_24 rfl ?_
  refine g_getr (j := (i + 3)) C F0 i_hi i_k (by decide) 2 (by decide) rfl (hts (.fieldLink RX0 18 "FallBench$Machine" "bytes" "[I") (by decide +kernel)) rfl i_r2 dX0_carry_25 ?_
  refine g_iload_n C dX0_carry_28 rfl ?_
  refine g_aload_n C dX0_carry_29 rfl ?_
  refine g_getr (j := (i + 3)) C F0 i_hi i_k (by decide) 2 (by decide) rfl (hts (.fieldLink RX0 18 "FallBench$Machine" "bytes" "[I") (by decide +kernel)) rfl i_r2 dX0_carry_30 ?_
  refine g_iload_n C dX0_carry_33 rfl ?_
  refine g_iald (v := M (i + 3) f.toNatClampNeg) C i_hi3 i_k3 (by rw [i_l3]; exact hf) (by rw [up2_n1 _ _ (by omega), up2_n1 _ _ (by omega)]) dX0_carry_34 ?_
  refine g_iload_n C dX0_carry_35 rfl ?_
  refine g_ior C dX0_carry_36 ?_
  refine g_iast C i_hi3 i_k3 (by rw [i_l3]; exact ht) dX0_carry_37 ?_
  exact g_vret C Rr ⟨rfl, ⟨rfl, rfl⟩⟩ dX0_carry_38

set_option maxHeartbeats 4000000 in
set_option maxRecDepth 100000 in
theorem c_X0_endBadly {l : Launch} {D : va_G} {w : gw} {M : Nat → Nat → Int32} {J : Nat → Nat → Int64} {R : Nat → Nat → Option Nat} {i : Nat} {how a x : Int32} (hi : isMach w R i) (hx : vp_in x 40) : Cf l yX0_endBadly wsX0_endBadly ({ frames := 0, cells := 0, slots := 0, locals := 0 } : Room) D w [.ref (w.2.1 i), .int how, .int a, .int x] M J R none (m_bad M i how a x) J R := by
  obtain ⟨i_hi4, i_k, i_k1, i_k2, i_k3, i_k4, i_l1, i_l2, i_l3, i_l4, i_r0, i_r1, i_r2, i_r3⟩ := id hi
  have i_hi : i < w.1 := by omega
  have i_hi1 : i + 1 < w.1 := by omega
  have i_hi2 : i + 2 < w.1 := by omega
  have i_hi3 : i + 3 < w.1 := by omega
  refine Cg.of (own := RX0) (cc := cX0_endBadly) (maxL := 4) (ret := none) 0 (by decide) rfl rfl (Nat.le_of_ble_eq_true rfl) (fun X C hts V Rr => ?_)
  have F0 : FW X 0 := fun q h => hts q (List.mem_cons_of_mem _ (List.mem_append_right _ h))
  show Gj X 0 0 w M J R 0 [some (.ref (w.2.1 i)), some (.int how), some (.int a), some (.int x)] []
  refine g_aload_n C dX0_endBadly_0 rfl ?_
  refine g_iload_n C dX0_endBadly_1 rfl ?_
  refine g_puti C F0 i_hi i_k (by decide) 7 (by decide) rfl (hts (.fieldLink RX0 34 "FallBench$Machine" "ended" "I") (by decide +kernel)) rfl rfl rfl rfl dX0_endBadly_2 ?_
  refine g_aload_n C dX0_endBadly_5 rfl ?_
  refine g_iload_n C dX0_endBadly_6 rfl ?_
  refine g_puti C F0 i_hi i_k (by decide) 8 (by decide) rfl (hts (.fieldLink RX0 37 "FallBench$Machine" "endAct" "I") (by decide +kernel)) rfl rfl rfl rfl dX0_endBadly_7 ?_
  refine g_aload_n C dX0_endBadly_10 rfl ?_
  refine g_aload_n C dX0_endBadly_11 rfl ?_
  refine g_getr (j := (i + 1)) C F0 i_hi i_k (by decide) 0 (by decide) rfl (hts (.fieldLink RX0 9 "FallBench$Machine" "values" "[I") (by decide +kernel)) rfl i_r0 dX0_endBadly_12 ?_
  refine g_iload_n C dX0_endBadly_15 rfl ?_
  refine g_iald (v := M (i + 1) x.toNatClampNeg) C i_hi1 i_k1 (by rw [i_l1]; exact hx) (by simp only [up2_n1 _ _ (show i + 1 ≠ i by omega)]) dX0_endBadly_16 ?_
  refine g_puti C F0 i_hi i_k (by decide) 9 (by decide) rfl (hts (.fieldLink RX0 40 "FallBench$Machine" "wrong" "I") (by decide +kernel)) rfl rfl rfl rfl dX0_endBadly_17 ?_
  refine g_aload_n C dX0_endBadly_20 rfl ?_
  refine g_aload_n C dX0_endBadly_21 rfl ?_
  refine g_getr (j := (i + 2)) C F0 i_hi i_k (by decide) 1 (by decide) rfl (hts (.fieldLink RX0 15 "FallBench$Machine" "makers" "[I") (by decide +kernel)) rfl i_r1 dX0_endBadly_22 ?_
  refine g_iload_n C dX0_endBadly_25 rfl ?_
  refine g_iald (v := M (i + 2) x.toNatClampNeg) C i_hi2 i_k2 (by rw [i_l2]; exact hx) (by simp only [up2_n1 _ _ (show i + 2 ≠ i by omega)]) dX0_endBadly_26 ?_
  refine g_puti C F0 i_hi i_k (by decide) 10 (by decide) rfl (hts (.fieldLink RX0 43 "FallBench$Machine" "wrongMaker" "I") (by decide +kernel)) rfl rfl rfl rfl dX0_endBadly_27 ?_
  refine g_aload_n C dX0_endBadly_30 rfl ?_
  refine g_aload_n C dX0_endBadly_31 rfl ?_
  refine g_getr (j := (i + 3)) C F0 i_hi i_k (by decide) 2 (by decide) rfl (hts (.fieldLink RX0 18 "FallBench$Machine" "bytes" "[I") (by decide +kernel)) rfl i_r2 dX0_endBadly_32 ?_
  refine g_iload_n C dX0_endBadly_35 rfl ?_
  refine g_iald (v := M (i + 3) x.toNatClampNeg) C i_hi3 i_k3 (by rw [i_l3]; exact hx) (by simp only [up2_n1 _ _ (show i + 3 ≠ i by omega)]) dX0_endBadly_36 ?_
  refine g_puti C F0 i_hi i_k (by decide) 11 (by decide) rfl (hts (.fieldLink RX0 46 "FallBench$Machine" "wrongBytes" "I") (by decide +kernel)) rfl rfl rfl rfl dX0_endBadly_37 ?_
  exact g_vret C Rr ⟨rfl, ⟨rfl, rfl⟩⟩ dX0_endBadly_40

set_option maxHeartbeats 4000000 in
set_option maxRecDepth 100000 in
theorem c_X0_isPlace {l : Launch} {D : va_G} {w : gw} {M : Nat → Nat → Int32} {J : Nat → Nat → Int64} {R : Nat → Nat → Option Nat} {v : Int32} : Cf l yX0_isPlace wsX0_isPlace ({ frames := 0, cells := 0, slots := 0, locals := 0 } : Room) D w [.int v] M J R (some (.int (isPl v))) M J R := by
  refine Cg.of (own := RX0) (cc := cX0_isPlace) (maxL := 1) (ret := (some .boolean)) 0 (by decide) rfl rfl (Nat.le_of_ble_eq_true rfl) (fun X C hts V Rr => ?_)
  show Gj X 0 0 w M J R 0 [some (.int v)] []
  refine g_iload_n C dX0_isPlace_0 rfl ?_
  refine g_if_lt (tgt := 14) C dX0_isPlace_1 (by decide) (fun c1 => ?_) (fun c1 => ?_)
  · refine g_iconst (v := 0) C dX0_isPlace_14 (by decide) ?_
    exact g_zret C Rr rfl ⟨rfl, ⟨by simp only [isPl, if_pos c1], rfl⟩⟩ dX0_isPlace_15
  · refine g_iload_n C dX0_isPlace_4 rfl ?_
    refine g_bipush (v := 32) C dX0_isPlace_5 (by decide) ?_
    refine g_icmp_ge (tgt := 14) C dX0_isPlace_7 (by decide) (fun c7 => ?_) (fun c7 => ?_)
    · refine g_iconst (v := 0) C dX0_isPlace_14 (by decide) ?_
      exact g_zret C Rr rfl ⟨rfl, ⟨by simp only [isPl, if_neg c1, if_pos c7], rfl⟩⟩ dX0_isPlace_15
    · refine g_iconst (v := 1) C dX0_isPlace_10 (by decide) ?_
      refine g_goto (tgt := 15) C dX0_isPlace_11 (by decide) ?_
      exact g_zret C Rr rfl ⟨rfl, ⟨by simp only [isPl, if_neg c1, if_neg c7], rfl⟩⟩ dX0_isPlace_15

set_option maxHeartbeats 4000000 in
set_option maxRecDepth 100000 in
theorem c_X0_asRegister {l : Launch} {D : va_G} {w : gw} {M : Nat → Nat → Int32} {J : Nat → Nat → Int64} {R : Nat → Nat → Option Nat} {v : Int32} : Cf l yX0_asRegister wsX0_asRegister ({ frames := 0, cells := 0, slots := 0, locals := 0 } : Room) D w [.int v] M J R (some (.int (asR v))) M J R := by
  refine Cg.of (own := RX0) (cc := cX0_asRegister) (maxL := 1) (ret := (some .int)) 0 (by decide) rfl rfl (Nat.le_of_ble_eq_true rfl) (fun X C hts V Rr => ?_)
  show Gj X 0 0 w M J R 0 [some (.int v)] []
  refine g_iload_n C dX0_asRegister_0 rfl ?_
  refine g_if_lt (tgt := 14) C dX0_asRegister_1 (by decide) (fun c1 => ?_) (fun c1 => ?_)
  · refine g_iconst (v := 0) C dX0_asRegister_14 (by decide) ?_
    exact g_iret C Rr ⟨rfl, ⟨by simp only [asR, if_pos c1], rfl⟩⟩ dX0_asRegister_15
  · refine g_iload_n C dX0_asRegister_4 rfl ?_
    refine g_bipush (v := 8) C dX0_asRegister_5 (by decide) ?_
    refine g_icmp_ge (tgt := 14) C dX0_asRegister_7 (by decide) (fun c7 => ?_) (fun c7 => ?_)
    · refine g_iconst (v := 0) C dX0_asRegister_14 (by decide) ?_
      exact g_iret C Rr ⟨rfl, ⟨by simp only [asR, if_neg c1, if_pos c7], rfl⟩⟩ dX0_asRegister_15
    · refine g_iload_n C dX0_asRegister_10 rfl ?_
      refine g_goto (tgt := 15) C dX0_asRegister_11 (by decide) ?_
      exact g_iret C Rr ⟨rfl, ⟨by simp only [asR, if_neg c1, if_neg c7], rfl⟩⟩ dX0_asRegister_15

theorem asR_id {v : Int32} (h : vp_in v 8) : asR v = v := by
  rw [vp_in_iff] at h
  have h0 : ¬ v < 0 := fun z => by have z := Int32.lt_iff_toInt_lt.1 z; rw [show (0 : Int32).toInt = 0 from rfl] at z; omega
  have h1 : ¬ 8 ≤ v := fun z => by have z := Int32.le_iff_toInt_le.1 z; rw [show (8 : Int32).toInt = 8 from rfl] at z; omega
  rw [asR, if_neg h0, if_neg h1]

set_option maxHeartbeats 4000000 in
set_option maxRecDepth 100000 in
theorem c_X0_tell {l : Launch} {D : va_G} {w : gw} {M : Nat → Nat → Int32} {J : Nat → Nat → Int64} {R : Nat → Nat → Option Nat} {i : Nat} {v : Int32} (hi : isMach w R i) (h4 : ¬ M i 4 < 0) : Cf l yX0_tell wsX0_tell ({ frames := 0, cells := 0, slots := 0, locals := 0 } : Room) D w [.ref (w.2.1 i), .int v] M J R none (m_tell M i v) J R := by
  obtain ⟨i_hi4, i_k, i_k1, i_k2, i_k3, i_k4, i_l1, i_l2, i_l3, i_l4, i_r0, i_r1, i_r2, i_r3⟩ := id hi
  have i_hi : i < w.1 := by omega
  have i_hi1 : i + 1 < w.1 := by omega
  have i_hi2 : i + 2 < w.1 := by omega
  have i_hi3 : i + 3 < w.1 := by omega
  refine Cg.of (own := RX0) (cc := cX0_tell) (maxL := 2) (ret := none) 0 (by decide) rfl rfl (Nat.le_of_ble_eq_true rfl) (fun X C hts V Rr => ?_)
  have F0 : FW X 0 := fun q h => hts q (List.mem_cons_of_mem _ (List.mem_append_right _ h))
  show Gj X 0 0 w M J R 0 [some (.ref (w.2.1 i)), some (.int v)] []
  refine g_aload_n C dX0_tell_0 rfl ?_
  refine g_geti C F0 i_hi i_k (by decide) 4 (by decide) rfl (hts (.fieldLink RX0 24 "FallBench$Machine" "toldCount" "I") (by decide +kernel)) rfl rfl dX0_tell_1 ?_
  refine g_bipush (v := 40) C dX0_tell_4 (by decide) ?_
  refine g_icmp_ge (tgt := 19) C dX0_tell_6 (by decide) (fun c6 => ?_) (fun c6 => ?_)
  · refine g_aload_n C dX0_tell_19 rfl ?_
    refine g_dup C dX0_tell_20 rfl ?_
    refine g_geti (v := M i 4) C F0 i_hi i_k (by decide) 4 (by decide) rfl (hts (.fieldLink RX0 24 "FallBench$Machine" "toldCount" "I") (by decide +kernel)) rfl (by first | rfl | exact up2_n1 _ _ (by omega)) dX0_tell_21 ?_
    refine g_iconst (v := 1) C dX0_tell_24 (by decide) ?_
    refine g_iadd C dX0_tell_25 ?_
    refine g_puti C F0 i_hi i_k (by decide) 4 (by decide) rfl (hts (.fieldLink RX0 24 "FallBench$Machine" "toldCount" "I") (by decide +kernel)) rfl rfl rfl rfl dX0_tell_26 ?_
    exact g_vret C Rr ⟨rfl, ⟨rfl, by simp only [m_tell, if_pos c6]⟩⟩ dX0_tell_29
  · refine g_aload_n C dX0_tell_9 rfl ?_
    refine g_getr (j := (i + 4)) C F0 i_hi i_k (by decide) 3 (by decide) rfl (hts (.fieldLink RX0 21 "FallBench$Machine" "toldValues" "[I") (by decide +kernel)) rfl i_r3 dX0_tell_10 ?_
    refine g_aload_n C dX0_tell_13 rfl ?_
    refine g_geti C F0 i_hi i_k (by decide) 4 (by decide) rfl (hts (.fieldLink RX0 24 "FallBench$Machine" "toldCount" "I") (by decide +kernel)) rfl rfl dX0_tell_14 ?_
    refine g_iload_n C dX0_tell_17 rfl ?_
    refine g_iast C i_hi4 i_k4 (by rw [i_l4]; exact inOf (by decide) h4 c6) dX0_tell_18 ?_
    refine g_aload_n C dX0_tell_19 rfl ?_
    refine g_dup C dX0_tell_20 rfl ?_
    refine g_geti (v := M i 4) C F0 i_hi i_k (by decide) 4 (by decide) rfl (hts (.fieldLink RX0 24 "FallBench$Machine" "toldCount" "I") (by decide +kernel)) rfl (by first | rfl | exact up2_n1 _ _ (by omega)) dX0_tell_21 ?_
    refine g_iconst (v := 1) C dX0_tell_24 (by decide) ?_
    refine g_iadd C dX0_tell_25 ?_
    refine g_puti C F0 i_hi i_k (by decide) 4 (by decide) rfl (hts (.fieldLink RX0 24 "FallBench$Machine" "toldCount" "I") (by decide +kernel)) rfl rfl rfl rfl dX0_tell_26 ?_
    exact g_vret C Rr ⟨rfl, ⟨rfl, by simp only [m_tell, if_neg c6]⟩⟩ dX0_tell_29

set_option maxHeartbeats 4000000 in
set_option maxRecDepth 100000 in
theorem c_X0_goIf {l : Launch} {D : va_G} {w : gw} {M : Nat → Nat → Int32} {J : Nat → Nat → Int64} {R : Nat → Nat → Option Nat} {i : Nat} {z a : Int32} (hi : isMach w R i) : Cf l yX0_goIf wsX0_goIf ({ frames := 0, cells := 0, slots := 0, locals := 0 } : Room) D w [.ref (w.2.1 i), .int z, .int a] M J R none (m_goIf M i z a) J R := by
  obtain ⟨i_hi4, i_k, i_k1, i_k2, i_k3, i_k4, i_l1, i_l2, i_l3, i_l4, i_r0, i_r1, i_r2, i_r3⟩ := id hi
  have i_hi : i < w.1 := by omega
  have i_hi1 : i + 1 < w.1 := by omega
  have i_hi2 : i + 2 < w.1 := by omega
  have i_hi3 : i + 3 < w.1 := by omega
  refine Cg.of (own := RX0) (cc := cX0_goIf) (maxL := 3) (ret := none) 0 (by decide) rfl rfl (Nat.le_of_ble_eq_true rfl) (fun X C hts V Rr => ?_)
  have F0 : FW X 0 := fun q h => hts q (List.mem_cons_of_mem _ (List.mem_append_right _ h))
  show Gj X 0 0 w M J R 0 [some (.ref (w.2.1 i)), some (.int z), some (.int a)] []
  refine g_iload_n C dX0_goIf_0 rfl ?_
  refine g_if_eq (tgt := 9) C dX0_goIf_1 (by decide) (fun c1 => ?_) (fun c1 => ?_)
  · exact g_vret C Rr ⟨rfl, ⟨rfl, by simp only [m_goIf, if_pos c1]⟩⟩ dX0_goIf_9
  · refine g_aload_n C dX0_goIf_4 rfl ?_
    refine g_iload_n C dX0_goIf_5 rfl ?_
    refine g_puti C F0 i_hi i_k (by decide) 12 (by decide) rfl (hts (.fieldLink RX0 49 "FallBench$Machine" "next" "I") (by decide +kernel)) rfl rfl rfl rfl dX0_goIf_6 ?_
    exact g_vret C Rr ⟨rfl, ⟨rfl, by simp only [m_goIf, if_neg c1]⟩⟩ dX0_goIf_9

set_option maxHeartbeats 4000000 in
set_option maxRecDepth 100000 in
theorem c_X0_endedAtAct {l : Launch} {D : va_G} {w : gw} {M : Nat → Nat → Int32} {J : Nat → Nat → Int64} {R : Nat → Nat → Option Nat} {i : Nat} (hi : isMach w R i) : Cf l yX0_endedAtAct wsX0_endedAtAct ({ frames := 0, cells := 0, slots := 0, locals := 0 } : Room) D w [.ref (w.2.1 i)] M J R (some (.int (if M i 8 = -1 then 0 else 1))) M J R := by
  obtain ⟨i_hi4, i_k, i_k1, i_k2, i_k3, i_k4, i_l1, i_l2, i_l3, i_l4, i_r0, i_r1, i_r2, i_r3⟩ := id hi
  have i_hi : i < w.1 := by omega
  have i_hi1 : i + 1 < w.1 := by omega
  have i_hi2 : i + 2 < w.1 := by omega
  have i_hi3 : i + 3 < w.1 := by omega
  refine Cg.of (own := RX0) (cc := cX0_endedAtAct) (maxL := 1) (ret := (some .boolean)) 0 (by decide) rfl rfl (Nat.le_of_ble_eq_true rfl) (fun X C hts V Rr => ?_)
  have F0 : FW X 0 := fun q h => hts q (List.mem_cons_of_mem _ (List.mem_append_right _ h))
  show Gj X 0 0 w M J R 0 [some (.ref (w.2.1 i))] []
  refine g_aload_n C dX0_endedAtAct_0 rfl ?_
  refine g_geti C F0 i_hi i_k (by decide) 8 (by decide) rfl (hts (.fieldLink RX0 37 "FallBench$Machine" "endAct" "I") (by decide +kernel)) rfl rfl dX0_endedAtAct_1 ?_
  refine g_iconst (v := (-1)) C dX0_endedAtAct_4 (by decide) ?_
  refine g_icmp_eq (tgt := 12) C dX0_endedAtAct_5 (by decide) (fun c5 => ?_) (fun c5 => ?_)
  · refine g_iconst (v := 0) C dX0_endedAtAct_12 (by decide) ?_
    exact g_zret C Rr rfl ⟨rfl, ⟨by simp only [if_pos c5], rfl⟩⟩ dX0_endedAtAct_13
  · refine g_iconst (v := 1) C dX0_endedAtAct_8 (by decide) ?_
    refine g_goto (tgt := 13) C dX0_endedAtAct_9 (by decide) ?_
    exact g_zret C Rr rfl ⟨rfl, ⟨by simp only [if_neg c5], rfl⟩⟩ dX0_endedAtAct_13

set_option maxHeartbeats 4000000 in
set_option maxRecDepth 100000 in
theorem c_X0_hasCauseOf {l : Launch} {D : va_G} {w : gw} {M : Nat → Nat → Int32} {J : Nat → Nat → Int64} {R : Nat → Nat → Option Nat} {i o : Nat} (hi : isMach w R i) (ho : isMach w R o) : Cf l yX0_hasCauseOf wsX0_hasCauseOf ({ frames := 0, cells := 0, slots := 0, locals := 0 } : Room) D w [.ref (w.2.1 i), .ref (w.2.1 o)] M J R (some (.int (if M i 7 = M o 7 then (if M i 8 = M o 8 then (if M i 10 = M o 10 then 1 else 0) else 0) else 0))) M J R := by
  obtain ⟨i_hi4, i_k, i_k1, i_k2, i_k3, i_k4, i_l1, i_l2, i_l3, i_l4, i_r0, i_r1, i_r2, i_r3⟩ := id hi
  have i_hi : i < w.1 := by omega
  have i_hi1 : i + 1 < w.1 := by omega
  have i_hi2 : i + 2 < w.1 := by omega
  have i_hi3 : i + 3 < w.1 := by omega
  obtain ⟨o_hi4, o_k, o_k1, o_k2, o_k3, o_k4, o_l1, o_l2, o_l3, o_l4, o_r0, o_r1, o_r2, o_r3⟩ := id ho
  have o_hi : o < w.1 := by omega
  have o_hi1 : o + 1 < w.1 := by omega
  have o_hi2 : o + 2 < w.1 := by omega
  have o_hi3 : o + 3 < w.1 := by omega
  refine Cg.of (own := RX0) (cc := cX0_hasCauseOf) (maxL := 2) (ret := (some .boolean)) 0 (by decide) rfl rfl (Nat.le_of_ble_eq_true rfl) (fun X C hts V Rr => ?_)
  have F0 : FW X 0 := fun q h => hts q (List.mem_cons_of_mem _ (List.mem_append_right _ h))
  show Gj X 0 0 w M J R 0 [some (.ref (w.2.1 i)), some (.ref (w.2.1 o))] []
  refine g_aload_n C dX0_hasCauseOf_0 rfl ?_
  refine g_geti C F0 i_hi i_k (by decide) 7 (by decide) rfl (hts (.fieldLink RX0 34 "FallBench$Machine" "ended" "I") (by decide +kernel)) rfl rfl dX0_hasCauseOf_1 ?_
  refine g_aload_n C dX0_hasCauseOf_4 rfl ?_
  refine g_geti C F0 o_hi o_k (by decide) 7 (by decide) rfl (hts (.fieldLink RX0 34 "FallBench$Machine" "ended" "I") (by decide +kernel)) rfl rfl dX0_hasCauseOf_5 ?_
  refine g_icmp_ne (tgt := 37) C dX0_hasCauseOf_8 (by decide) (fun c8 => ?_) (fun c8 => ?_)
  · refine g_iconst (v := 0) C dX0_hasCauseOf_37 (by decide) ?_
    exact g_zret C Rr rfl ⟨rfl, ⟨by simp only [if_neg c8], rfl⟩⟩ dX0_hasCauseOf_38
  · refine g_aload_n C dX0_hasCauseOf_11 rfl ?_
    refine g_geti C F0 i_hi i_k (by decide) 8 (by decide) rfl (hts (.fieldLink RX0 37 "FallBench$Machine" "endAct" "I") (by decide +kernel)) rfl rfl dX0_hasCauseOf_12 ?_
    refine g_aload_n C dX0_hasCauseOf_15 rfl ?_
    refine g_geti C F0 o_hi o_k (by decide) 8 (by decide) rfl (hts (.fieldLink RX0 37 "FallBench$Machine" "endAct" "I") (by decide +kernel)) rfl rfl dX0_hasCauseOf_16 ?_
    refine g_icmp_ne (tgt := 37) C dX0_hasCauseOf_19 (by decide) (fun c19 => ?_) (fun c19 => ?_)
    · refine g_iconst (v := 0) C dX0_hasCauseOf_37 (by decide) ?_
      exact g_zret C Rr rfl ⟨rfl, ⟨by simp only [if_pos c8, if_neg c19], rfl⟩⟩ dX0_hasCauseOf_38
    · refine g_aload_n C dX0_hasCauseOf_22 rfl ?_
      refine g_geti C F0 i_hi i_k (by decide) 10 (by decide) rfl (hts (.fieldLink RX0 43 "FallBench$Machine" "wrongMaker" "I") (by decide +kernel)) rfl rfl dX0_hasCauseOf_23 ?_
      refine g_aload_n C dX0_hasCauseOf_26 rfl ?_
      refine g_geti C F0 o_hi o_k (by decide) 10 (by decide) rfl (hts (.fieldLink RX0 43 "FallBench$Machine" "wrongMaker" "I") (by decide +kernel)) rfl rfl dX0_hasCauseOf_27 ?_
      refine g_icmp_ne (tgt := 37) C dX0_hasCauseOf_30 (by decide) (fun c30 => ?_) (fun c30 => ?_)
      · refine g_iconst (v := 0) C dX0_hasCauseOf_37 (by decide) ?_
        exact g_zret C Rr rfl ⟨rfl, ⟨by simp only [if_pos c8, if_pos c19, if_neg c30], rfl⟩⟩ dX0_hasCauseOf_38
      · refine g_iconst (v := 1) C dX0_hasCauseOf_33 (by decide) ?_
        refine g_goto (tgt := 38) C dX0_hasCauseOf_34 (by decide) ?_
        exact g_zret C Rr rfl ⟨rfl, ⟨by simp only [if_pos c8, if_pos c19, if_pos c30], rfl⟩⟩ dX0_hasCauseOf_38

set_option maxHeartbeats 4000000 in
set_option maxRecDepth 100000 in
theorem c_X0_jump {l : Launch} {D : va_G} {w : gw} {M : Nat → Nat → Int32} {J : Nat → Nat → Int64} {R : Nat → Nat → Option Nat} {i : Nat} {x a n : Int32} (hi : isMach w R i) (hx : vp_in x 40) : Cf l yX0_jump wsX0_jump ({ frames := 1, cells := 0, slots := 0, locals := 23 } : Room) D w [.ref (w.2.1 i), .int x, .int a, .int n] M J R none (m_jump M i x a n) J R := by
  obtain ⟨i_hi4, i_k, i_k1, i_k2, i_k3, i_k4, i_l1, i_l2, i_l3, i_l4, i_r0, i_r1, i_r2, i_r3⟩ := id hi
  have i_hi : i < w.1 := by omega
  have i_hi1 : i + 1 < w.1 := by omega
  have i_hi2 : i + 2 < w.1 := by omega
  have i_hi3 : i + 3 < w.1 := by omega
  refine Cg.of (own := RX0) (cc := cX0_jump) (maxL := 4) (ret := none) 0 (by decide) rfl rfl (Nat.le_of_ble_eq_true rfl) (fun X C hts V Rr => ?_)
  have F0 : FW X 0 := fun q h => hts q (List.mem_cons_of_mem _ (List.mem_append_right _ h))
  show Gj X 0 0 w M J R 0 [some (.ref (w.2.1 i)), some (.int x), some (.int a), some (.int n)] []
  refine g_aload_n C dX0_jump_0 rfl ?_
  refine g_getr (j := (i + 1)) C F0 i_hi i_k (by decide) 0 (by decide) rfl (hts (.fieldLink RX0 9 "FallBench$Machine" "values" "[I") (by decide +kernel)) rfl i_r0 dX0_jump_1 ?_
  refine g_iload_n C dX0_jump_4 rfl ?_
  refine g_iald C i_hi1 i_k1 (by rw [i_l1]; exact hx) rfl dX0_jump_5 ?_
  refine g_if_lt (tgt := 32) C dX0_jump_6 (by decide) (fun c6 => ?_) (fun c6 => ?_)
  · refine g_aload_n C dX0_jump_32 rfl ?_
    refine g_iconst (v := 3) C dX0_jump_33 (by decide) ?_
    refine g_iload_n C dX0_jump_34 rfl ?_
    refine g_iload_n C dX0_jump_35 rfl ?_
    refine g_callVf C hts V (i := i) (gX0_jump_X0_endBadly) rfl hdX0_endBadly (by decide) (c_X0_endBadly hi hx) i_hi i_k (by decide) rfl rfl (Nat.le_of_ble_eq_true rfl) dX0_jump_36 ?_
    exact g_vret C Rr ⟨rfl, ⟨rfl, by simp only [m_jump, if_pos c6]⟩⟩ dX0_jump_39
  · refine g_aload_n C dX0_jump_9 rfl ?_
    refine g_getr (j := (i + 1)) C F0 i_hi i_k (by decide) 0 (by decide) rfl (hts (.fieldLink RX0 9 "FallBench$Machine" "values" "[I") (by decide +kernel)) rfl i_r0 dX0_jump_10 ?_
    refine g_iload_n C dX0_jump_13 rfl ?_
    refine g_iald C i_hi1 i_k1 (by rw [i_l1]; exact hx) rfl dX0_jump_14 ?_
    refine g_iload_n C dX0_jump_15 rfl ?_
    refine g_icmp_ge (tgt := 32) C dX0_jump_16 (by decide) (fun c16 => ?_) (fun c16 => ?_)
    · refine g_aload_n C dX0_jump_32 rfl ?_
      refine g_iconst (v := 3) C dX0_jump_33 (by decide) ?_
      refine g_iload_n C dX0_jump_34 rfl ?_
      refine g_iload_n C dX0_jump_35 rfl ?_
      refine g_callVf C hts V (i := i) (gX0_jump_X0_endBadly) rfl hdX0_endBadly (by decide) (c_X0_endBadly hi hx) i_hi i_k (by decide) rfl rfl (Nat.le_of_ble_eq_true rfl) dX0_jump_36 ?_
      exact g_vret C Rr ⟨rfl, ⟨rfl, by simp only [m_jump, if_neg c6, if_pos c16]⟩⟩ dX0_jump_39
    · refine g_aload_n C dX0_jump_19 rfl ?_
      refine g_aload_n C dX0_jump_20 rfl ?_
      refine g_getr (j := (i + 1)) C F0 i_hi i_k (by decide) 0 (by decide) rfl (hts (.fieldLink RX0 9 "FallBench$Machine" "values" "[I") (by decide +kernel)) rfl i_r0 dX0_jump_21 ?_
      refine g_iload_n C dX0_jump_24 rfl ?_
      refine g_iald C i_hi1 i_k1 (by rw [i_l1]; exact hx) rfl dX0_jump_25 ?_
      refine g_puti C F0 i_hi i_k (by decide) 12 (by decide) rfl (hts (.fieldLink RX0 49 "FallBench$Machine" "next" "I") (by decide +kernel)) rfl rfl rfl rfl dX0_jump_26 ?_
      refine g_goto (tgt := 39) C dX0_jump_29 (by decide) ?_
      exact g_vret C Rr ⟨rfl, ⟨rfl, by simp only [m_jump, if_neg c6, if_neg c16]⟩⟩ dX0_jump_39

theorem pl_in {v : Int32} (h : ¬ isPl v = 0) : vp_in (8 + v) 40 := by
  have h0 : ¬ v < 0 := fun z => h (by simp only [isPl, if_pos z])
  have h1 : ¬ 32 ≤ v := fun z => h (by simp only [isPl, if_neg h0, if_pos z])
  obtain ⟨j, hj, rfl⟩ := nI_of h0
  have hj2 : j < 32 := by rcases Nat.lt_or_ge j 32 with q | q; exact q; exact absurd (nI_le q hj) h1
  have : (8 : Int32) + nI j = nI (8 + j) := nI_add 8 j
  rw [this]
  exact vp_in_nI (by omega) (by decide)

set_option maxHeartbeats 4000000 in
set_option maxRecDepth 100000 in
theorem c_X0_load {l : Launch} {D : va_G} {w : gw} {M : Nat → Nat → Int32} {J : Nat → Nat → Int64} {R : Nat → Nat → Option Nat} {i : Nat} {r s a : Int32} (hi : isMach w R i) (hr : vp_in r 40) (hs : vp_in s 40) : Cf l yX0_load wsX0_load ({ frames := 1, cells := 0, slots := 0, locals := 23 } : Room) D w [.ref (w.2.1 i), .int r, .int s, .int a] M J R none (m_load M i r s a) J R := by
  obtain ⟨i_hi4, i_k, i_k1, i_k2, i_k3, i_k4, i_l1, i_l2, i_l3, i_l4, i_r0, i_r1, i_r2, i_r3⟩ := id hi
  have i_hi : i < w.1 := by omega
  have i_hi1 : i + 1 < w.1 := by omega
  have i_hi2 : i + 2 < w.1 := by omega
  have i_hi3 : i + 3 < w.1 := by omega
  refine Cg.of (own := RX0) (cc := cX0_load) (maxL := 4) (ret := none) 0 (by decide) rfl rfl (Nat.le_of_ble_eq_true rfl) (fun X C hts V Rr => ?_)
  have F0 : FW X 0 := fun q h => hts q (List.mem_cons_of_mem _ (List.mem_append_right _ h))
  show Gj X 0 0 w M J R 0 [some (.ref (w.2.1 i)), some (.int r), some (.int s), some (.int a)] []
  refine g_aload_n C dX0_load_0 rfl ?_
  refine g_getr (j := (i + 1)) C F0 i_hi i_k (by decide) 0 (by decide) rfl (hts (.fieldLink RX0 9 "FallBench$Machine" "values" "[I") (by decide +kernel)) rfl i_r0 dX0_load_1 ?_
  refine g_iload_n C dX0_load_4 rfl ?_
  refine g_iald C i_hi1 i_k1 (by rw [i_l1]; exact hs) rfl dX0_load_5 ?_
  refine g_callSf C hts V (gX0_load_X0_isPlace) rfl hdX0_isPlace (by decide) c_X0_isPlace rfl rfl (Nat.le_of_ble_eq_true rfl) dX0_load_6 ?_
  refine g_if_eq (tgt := 35) C dX0_load_9 (by decide) (fun c9 => ?_) (fun c9 => ?_)
  · refine g_aload_n C dX0_load_35 rfl ?_
    refine g_iconst (v := 1) C dX0_load_36 (by decide) ?_
    refine g_iload_n C dX0_load_37 rfl ?_
    refine g_iload_n C dX0_load_38 rfl ?_
    refine g_callVf C hts V (i := i) (gX0_load_X0_endBadly) rfl hdX0_endBadly (by decide) (c_X0_endBadly hi hs) i_hi i_k (by decide) rfl rfl (Nat.le_of_ble_eq_true rfl) dX0_load_39 ?_
    exact g_vret C Rr ⟨rfl, ⟨rfl, by simp only [m_load, if_pos c9]⟩⟩ dX0_load_42
  · refine g_aload_n C dX0_load_12 rfl ?_
    refine g_bipush (v := 8) C dX0_load_13 (by decide) ?_
    refine g_aload_n C dX0_load_15 rfl ?_
    refine g_getr (j := (i + 1)) C F0 i_hi i_k (by decide) 0 (by decide) rfl (hts (.fieldLink RX0 9 "FallBench$Machine" "values" "[I") (by decide +kernel)) rfl i_r0 dX0_load_16 ?_
    refine g_iload_n C dX0_load_19 rfl ?_
    refine g_iald C i_hi1 i_k1 (by rw [i_l1]; exact hs) rfl dX0_load_20 ?_
    refine g_iadd C dX0_load_21 ?_
    refine g_iload_n C dX0_load_22 rfl ?_
    refine g_aload_n C dX0_load_23 rfl ?_
    refine g_getr (j := (i + 3)) C F0 i_hi i_k (by decide) 2 (by decide) rfl (hts (.fieldLink RX0 18 "FallBench$Machine" "bytes" "[I") (by decide +kernel)) rfl i_r2 dX0_load_24 ?_
    refine g_iload_n C dX0_load_27 rfl ?_
    refine g_iald C i_hi3 i_k3 (by rw [i_l3]; exact hs) rfl dX0_load_28 ?_
    refine g_callVf C hts V (i := i) (gX0_load_X0_carry) rfl hdX0_carry (by decide) (c_X0_carry hi (pl_in c9) hr) i_hi i_k (by decide) rfl rfl (Nat.le_of_ble_eq_true rfl) dX0_load_29 ?_
    refine g_goto (tgt := 42) C dX0_load_32 (by decide) ?_
    exact g_vret C Rr ⟨rfl, ⟨rfl, by simp only [m_load, if_neg c9]⟩⟩ dX0_load_42

set_option maxHeartbeats 4000000 in
set_option maxRecDepth 100000 in
theorem c_X0_store {l : Launch} {D : va_G} {w : gw} {M : Nat → Nat → Int32} {J : Nat → Nat → Int64} {R : Nat → Nat → Option Nat} {i : Nat} {r s a : Int32} (hi : isMach w R i) (hr : vp_in r 40) (hs : vp_in s 40) : Cf l yX0_store wsX0_store ({ frames := 1, cells := 0, slots := 0, locals := 23 } : Room) D w [.ref (w.2.1 i), .int r, .int s, .int a] M J R none (m_store M i r s a) J R := by
  obtain ⟨i_hi4, i_k, i_k1, i_k2, i_k3, i_k4, i_l1, i_l2, i_l3, i_l4, i_r0, i_r1, i_r2, i_r3⟩ := id hi
  have i_hi : i < w.1 := by omega
  have i_hi1 : i + 1 < w.1 := by omega
  have i_hi2 : i + 2 < w.1 := by omega
  have i_hi3 : i + 3 < w.1 := by omega
  refine Cg.of (own := RX0) (cc := cX0_store) (maxL := 4) (ret := none) 0 (by decide) rfl rfl (Nat.le_of_ble_eq_true rfl) (fun X C hts V Rr => ?_)
  have F0 : FW X 0 := fun q h => hts q (List.mem_cons_of_mem _ (List.mem_append_right _ h))
  show Gj X 0 0 w M J R 0 [some (.ref (w.2.1 i)), some (.int r), some (.int s), some (.int a)] []
  refine g_aload_n C dX0_store_0 rfl ?_
  refine g_getr (j := (i + 1)) C F0 i_hi i_k (by decide) 0 (by decide) rfl (hts (.fieldLink RX0 9 "FallBench$Machine" "values" "[I") (by decide +kernel)) rfl i_r0 dX0_store_1 ?_
  refine g_iload_n C dX0_store_4 rfl ?_
  refine g_iald C i_hi1 i_k1 (by rw [i_l1]; exact hr) rfl dX0_store_5 ?_
  refine g_callSf C hts V (gX0_store_X0_isPlace) rfl hdX0_isPlace (by decide) c_X0_isPlace rfl rfl (Nat.le_of_ble_eq_true rfl) dX0_store_6 ?_
  refine g_if_eq (tgt := 35) C dX0_store_9 (by decide) (fun c9 => ?_) (fun c9 => ?_)
  · refine g_aload_n C dX0_store_35 rfl ?_
    refine g_iconst (v := 2) C dX0_store_36 (by decide) ?_
    refine g_iload_n C dX0_store_37 rfl ?_
    refine g_iload_n C dX0_store_38 rfl ?_
    refine g_callVf C hts V (i := i) (gX0_store_X0_endBadly) rfl hdX0_endBadly (by decide) (c_X0_endBadly hi hr) i_hi i_k (by decide) rfl rfl (Nat.le_of_ble_eq_true rfl) dX0_store_39 ?_
    exact g_vret C Rr ⟨rfl, ⟨rfl, by simp only [m_store, if_pos c9]⟩⟩ dX0_store_42
  · refine g_aload_n C dX0_store_12 rfl ?_
    refine g_iload_n C dX0_store_13 rfl ?_
    refine g_bipush (v := 8) C dX0_store_14 (by decide) ?_
    refine g_aload_n C dX0_store_16 rfl ?_
    refine g_getr (j := (i + 1)) C F0 i_hi i_k (by decide) 0 (by decide) rfl (hts (.fieldLink RX0 9 "FallBench$Machine" "values" "[I") (by decide +kernel)) rfl i_r0 dX0_store_17 ?_
    refine g_iload_n C dX0_store_20 rfl ?_
    refine g_iald C i_hi1 i_k1 (by rw [i_l1]; exact hr) rfl dX0_store_21 ?_
    refine g_iadd C dX0_store_22 ?_
    refine g_aload_n C dX0_store_23 rfl ?_
    refine g_getr (j := (i + 3)) C F0 i_hi i_k (by decide) 2 (by decide) rfl (hts (.fieldLink RX0 18 "FallBench$Machine" "bytes" "[I") (by decide +kernel)) rfl i_r2 dX0_store_24 ?_
    refine g_iload_n C dX0_store_27 rfl ?_
    refine g_iald C i_hi3 i_k3 (by rw [i_l3]; exact hr) rfl dX0_store_28 ?_
    refine g_callVf C hts V (i := i) (gX0_store_X0_carry) rfl hdX0_carry (by decide) (c_X0_carry hi hs (pl_in c9)) i_hi i_k (by decide) rfl rfl (Nat.le_of_ble_eq_true rfl) dX0_store_29 ?_
    refine g_goto (tgt := 42) C dX0_store_32 (by decide) ?_
    exact g_vret C Rr ⟨rfl, ⟨rfl, by simp only [m_store, if_neg c9]⟩⟩ dX0_store_42

theorem m_make_0 (M : Nat → Nat → Int32) (i : Nat) (x v a b : Int32) (k : Nat) : m_make M i x v a b i k = M i k := by
  simp only [m_make, up2_n1 _ _ (show i ≠ i + 1 by omega), up2_n1 _ _ (show i ≠ i + 2 by omega), up2_n1 _ _ (show i ≠ i + 3 by omega)]

set_option maxHeartbeats 4000000 in
set_option maxRecDepth 100000 in
theorem c_X0_readByte {l : Launch} {D : va_G} {w : gw} {M : Nat → Nat → Int32} {J : Nat → Nat → Int64} {R : Nat → Nat → Option Nat} {i q : Nat} {r a : Int32} (hi : isMach w R i) (hq : isRow w R q) (hr : vp_in r 40) : Cf l yX0_readByte wsX0_readByte ({ frames := 1, cells := 0, slots := 0, locals := 24 } : Room) D w [.ref (w.2.1 i), .int r, .int a, .ref (w.2.1 q)] M J R none (m_read M i r a q) J R := by
  obtain ⟨i_hi4, i_k, i_k1, i_k2, i_k3, i_k4, i_l1, i_l2, i_l3, i_l4, i_r0, i_r1, i_r2, i_r3⟩ := id hi
  have i_hi : i < w.1 := by omega
  have i_hi1 : i + 1 < w.1 := by omega
  have i_hi2 : i + 2 < w.1 := by omega
  have i_hi3 : i + 3 < w.1 := by omega
  obtain ⟨q_hi1, q_k, q_k1, q_0⟩ := id hq
  have q_hi : q < w.1 := by omega
  refine Cg.of (own := RX0) (cc := cX0_readByte) (maxL := 5) (ret := none) 1 (by decide) rfl rfl (Nat.le_of_ble_eq_true rfl) (fun X C hts V Rr => ?_)
  have F0 : FW X 0 := fun q h => hts q (List.mem_cons_of_mem _ (List.mem_append_left _ (List.mem_append_right _ h)))
  have F3 : FW X 3 := fun q h => hts q (List.mem_cons_of_mem _ (List.mem_append_right _ h))
  show Gj X 0 0 w M J R 0 [some (.ref (w.2.1 i)), some (.int r), some (.int a), some (.ref (w.2.1 q)), none] []
  refine g_aload_n C dX0_readByte_0 rfl ?_
  refine g_aload_n C dX0_readByte_1 rfl ?_
  refine g_geti C F0 i_hi i_k (by decide) 5 (by decide) rfl (hts (.fieldLink RX0 28 "FallBench$Machine" "readCount" "I") (by decide +kernel)) rfl rfl dX0_readByte_2 ?_
  refine g_callVf C hts V (i := q) (gX0_readByte_X3_byteAt) rfl hdX3_byteAt (by decide) (c_X3_byteAt hq) q_hi q_k (by decide) rfl rfl (Nat.le_of_ble_eq_true rfl) dX0_readByte_5 ?_
  refine g_istore C V.2.1 dX0_readByte_8 (by decide) rfl ?_
  refine g_iload C dX0_readByte_10 rfl ?_
  refine g_iconst (v := (-1)) C dX0_readByte_12 (by decide) ?_
  refine g_icmp_ne (tgt := 27) C dX0_readByte_13 (by decide) (fun c13 => ?_) (fun c13 => ?_)
  · refine g_aload_n C dX0_readByte_27 rfl ?_
    refine g_iload_n C dX0_readByte_28 rfl ?_
    refine g_iload C dX0_readByte_29 rfl ?_
    refine g_iload_n C dX0_readByte_31 rfl ?_
    refine g_iconst (v := 1) C dX0_readByte_32 (by decide) ?_
    refine g_aload_n C dX0_readByte_33 rfl ?_
    refine g_geti C F0 i_hi i_k (by decide) 5 (by decide) rfl (hts (.fieldLink RX0 28 "FallBench$Machine" "readCount" "I") (by decide +kernel)) rfl rfl dX0_readByte_34 ?_
    refine g_ishl C dX0_readByte_37 ?_
    refine g_callVf C hts V (i := i) (gX0_readByte_X0_make) rfl hdX0_make (by decide) (c_X0_make hi hr) i_hi i_k (by decide) rfl rfl (Nat.le_of_ble_eq_true rfl) dX0_readByte_38 ?_
    refine g_aload_n C dX0_readByte_41 rfl ?_
    refine g_dup C dX0_readByte_42 rfl ?_
    refine g_geti (v := M i 5) C F0 i_hi i_k (by decide) 5 (by decide) rfl (hts (.fieldLink RX0 28 "FallBench$Machine" "readCount" "I") (by decide +kernel)) rfl (m_make_0 M i _ _ _ _ 5) dX0_readByte_43 ?_
    refine g_iconst (v := 1) C dX0_readByte_46 (by decide) ?_
    refine g_iadd C dX0_readByte_47 ?_
    refine g_puti C F0 i_hi i_k (by decide) 5 (by decide) rfl (hts (.fieldLink RX0 28 "FallBench$Machine" "readCount" "I") (by decide +kernel)) rfl rfl rfl rfl dX0_readByte_48 ?_
    exact g_vret C Rr ⟨rfl, ⟨rfl, by simp only [m_read, if_neg c13]⟩⟩ dX0_readByte_51
  · refine g_aload_n C dX0_readByte_16 rfl ?_
    refine g_iload_n C dX0_readByte_17 rfl ?_
    refine g_iconst (v := (-1)) C dX0_readByte_18 (by decide) ?_
    refine g_iload_n C dX0_readByte_19 rfl ?_
    refine g_iconst (v := 0) C dX0_readByte_20 (by decide) ?_
    refine g_callVf C hts V (i := i) (gX0_readByte_X0_make) rfl hdX0_make (by decide) (c_X0_make hi hr) i_hi i_k (by decide) rfl rfl (Nat.le_of_ble_eq_true rfl) dX0_readByte_21 ?_
    refine g_goto (tgt := 51) C dX0_readByte_24 (by decide) ?_
    exact g_vret C Rr ⟨rfl, ⟨rfl, by simp only [m_read, if_pos c13]⟩⟩ dX0_readByte_51

set_option maxHeartbeats 4000000 in
set_option maxRecDepth 100000 in
theorem c_X0_clear {l : Launch} {D : va_G} {w : gw} {M : Nat → Nat → Int32} {J : Nat → Nat → Int64} {R : Nat → Nat → Option Nat} {i : Nat} (hi : isMach w R i) : Cf l yX0_clear wsX0_clear ({ frames := 1, cells := 0, slots := 0, locals := 23 } : Room) D w [.ref (w.2.1 i)] M J R none (m_clear M i) J R := by
  obtain ⟨i_hi4, i_k, i_k1, i_k2, i_k3, i_k4, i_l1, i_l2, i_l3, i_l4, i_r0, i_r1, i_r2, i_r3⟩ := id hi
  have i_hi : i < w.1 := by omega
  have i_hi1 : i + 1 < w.1 := by omega
  have i_hi2 : i + 2 < w.1 := by omega
  have i_hi3 : i + 3 < w.1 := by omega
  refine Cg.of (own := RX0) (cc := cX0_clear) (maxL := 1) (ret := none) 0 (by decide) rfl rfl (Nat.le_of_ble_eq_true rfl) (fun X C hts V Rr => ?_)
  have F0 : FW X 0 := fun q h => hts q (List.mem_cons_of_mem _ (List.mem_append_right _ h))
  show Gj X 0 0 w M J R 0 [some (.ref (w.2.1 i))] []
  refine g_aload_n C dX0_clear_0 rfl ?_
  refine g_getr (j := (i + 1)) C F0 i_hi i_k (by decide) 0 (by decide) rfl (hts (.fieldLink RX0 9 "FallBench$Machine" "values" "[I") (by decide +kernel)) rfl i_r0 dX0_clear_1 ?_
  refine g_iconst (v := 0) C dX0_clear_4 (by decide) ?_
  refine g_callSf C hts V (gX0_clear_J7_fill_53178) rfl hdJ7_fill_53178 (by decide) (c_J7_fill_53178 i_hi1 i_k1) rfl rfl (Nat.le_of_ble_eq_true rfl) dX0_clear_5 ?_
  refine g_aload_n C dX0_clear_8 rfl ?_
  refine g_getr (j := (i + 2)) C F0 i_hi i_k (by decide) 1 (by decide) rfl (hts (.fieldLink RX0 15 "FallBench$Machine" "makers" "[I") (by decide +kernel)) rfl i_r1 dX0_clear_9 ?_
  refine g_iconst (v := (-1)) C dX0_clear_12 (by decide) ?_
  refine g_callSf C hts V (gX0_clear_J7_fill_53178) rfl hdJ7_fill_53178 (by decide) (c_J7_fill_53178 i_hi2 i_k2) rfl rfl (Nat.le_of_ble_eq_true rfl) dX0_clear_13 ?_
  refine g_aload_n C dX0_clear_16 rfl ?_
  refine g_getr (j := (i + 3)) C F0 i_hi i_k (by decide) 2 (by decide) rfl (hts (.fieldLink RX0 18 "FallBench$Machine" "bytes" "[I") (by decide +kernel)) rfl i_r2 dX0_clear_17 ?_
  refine g_iconst (v := 0) C dX0_clear_20 (by decide) ?_
  refine g_callSf C hts V (gX0_clear_J7_fill_53178) rfl hdJ7_fill_53178 (by decide) (c_J7_fill_53178 i_hi3 i_k3) rfl rfl (Nat.le_of_ble_eq_true rfl) dX0_clear_21 ?_
  refine g_aload_n C dX0_clear_24 rfl ?_
  refine g_iconst (v := 0) C dX0_clear_25 (by decide) ?_
  refine g_puti C F0 i_hi i_k (by decide) 4 (by decide) rfl (hts (.fieldLink RX0 24 "FallBench$Machine" "toldCount" "I") (by decide +kernel)) rfl rfl rfl rfl dX0_clear_26 ?_
  refine g_aload_n C dX0_clear_29 rfl ?_
  refine g_iconst (v := 0) C dX0_clear_30 (by decide) ?_
  refine g_puti C F0 i_hi i_k (by decide) 5 (by decide) rfl (hts (.fieldLink RX0 28 "FallBench$Machine" "readCount" "I") (by decide +kernel)) rfl rfl rfl rfl dX0_clear_31 ?_
  refine g_aload_n C dX0_clear_34 rfl ?_
  refine g_iconst (v := 0) C dX0_clear_35 (by decide) ?_
  refine g_puti C F0 i_hi i_k (by decide) 6 (by decide) rfl (hts (.fieldLink RX0 31 "FallBench$Machine" "steps" "I") (by decide +kernel)) rfl rfl rfl rfl dX0_clear_36 ?_
  refine g_aload_n C dX0_clear_39 rfl ?_
  refine g_iconst (v := (-1)) C dX0_clear_40 (by decide) ?_
  refine g_puti C F0 i_hi i_k (by decide) 7 (by decide) rfl (hts (.fieldLink RX0 34 "FallBench$Machine" "ended" "I") (by decide +kernel)) rfl rfl rfl rfl dX0_clear_41 ?_
  refine g_aload_n C dX0_clear_44 rfl ?_
  refine g_iconst (v := (-1)) C dX0_clear_45 (by decide) ?_
  refine g_puti C F0 i_hi i_k (by decide) 8 (by decide) rfl (hts (.fieldLink RX0 37 "FallBench$Machine" "endAct" "I") (by decide +kernel)) rfl rfl rfl rfl dX0_clear_46 ?_
  refine g_aload_n C dX0_clear_49 rfl ?_
  refine g_iconst (v := 0) C dX0_clear_50 (by decide) ?_
  refine g_puti C F0 i_hi i_k (by decide) 9 (by decide) rfl (hts (.fieldLink RX0 40 "FallBench$Machine" "wrong" "I") (by decide +kernel)) rfl rfl rfl rfl dX0_clear_51 ?_
  refine g_aload_n C dX0_clear_54 rfl ?_
  refine g_iconst (v := (-1)) C dX0_clear_55 (by decide) ?_
  refine g_puti C F0 i_hi i_k (by decide) 10 (by decide) rfl (hts (.fieldLink RX0 43 "FallBench$Machine" "wrongMaker" "I") (by decide +kernel)) rfl rfl rfl rfl dX0_clear_56 ?_
  refine g_aload_n C dX0_clear_59 rfl ?_
  refine g_iconst (v := 0) C dX0_clear_60 (by decide) ?_
  refine g_puti C F0 i_hi i_k (by decide) 11 (by decide) rfl (hts (.fieldLink RX0 46 "FallBench$Machine" "wrongBytes" "I") (by decide +kernel)) rfl rfl rfl rfl dX0_clear_61 ?_
  refine g_aload_n C dX0_clear_64 rfl ?_
  refine g_iconst (v := 0) C dX0_clear_65 (by decide) ?_
  refine g_puti C F0 i_hi i_k (by decide) 12 (by decide) rfl (hts (.fieldLink RX0 49 "FallBench$Machine" "next" "I") (by decide +kernel)) rfl rfl rfl rfl dX0_clear_66 ?_
  exact g_vret C Rr ⟨rfl, ⟨rfl, by rw [i_l1, i_l2, i_l3]; rfl⟩⟩ dX0_clear_69

set_option maxHeartbeats 4000000 in
set_option maxRecDepth 100000 in
theorem c_X0_doAct {l : Launch} {D : va_G} {w : gw} {M : Nat → Nat → Int32} {J : Nat → Nat → Int64} {R : Nat → Nat → Option Nat} {i p q : Nat} {a : Int32} (hi : isMach w R i) (hp : isProg w R p) (hq : isRow w R q) (ha : vp_in a 80) (hok : okA (M (p + 1) a.toNatClampNeg) (M (p + 2) a.toNatClampNeg) (M (p + 3) a.toNatClampNeg)) (h4 : ¬ M i 4 < 0) : Cf l yX0_doAct wsX0_doAct ({ frames := 2, cells := 0, slots := 0, locals := 48 } : Room) D w [.ref (w.2.1 i), .ref (w.2.1 p), .int a, .ref (w.2.1 q)] M J R none (m_act M i p a q) J R := by
  obtain ⟨i_hi4, i_k, i_k1, i_k2, i_k3, i_k4, i_l1, i_l2, i_l3, i_l4, i_r0, i_r1, i_r2, i_r3⟩ := id hi
  have i_hi : i < w.1 := by omega
  have i_hi1 : i + 1 < w.1 := by omega
  have i_hi2 : i + 2 < w.1 := by omega
  have i_hi3 : i + 3 < w.1 := by omega
  obtain ⟨p_hi4, p_k, p_k1, p_k2, p_k3, p_k4, p_l1, p_l2, p_l3, p_l4, p_r0, p_r1, p_r2, p_r3⟩ := id hp
  have p_hi : p < w.1 := by omega
  have p_hi1 : p + 1 < w.1 := by omega
  have p_hi2 : p + 2 < w.1 := by omega
  have p_hi3 : p + 3 < w.1 := by omega
  obtain ⟨q_hi1, q_k, q_k1, q_0⟩ := id hq
  have q_hi : q < w.1 := by omega
  have np1 : p + 1 ≠ i := fun h => by rw [h, i_k] at p_k1; cases p_k1
  have np : p ≠ i := fun h => by rw [h, i_k] at p_k; cases p_k
  refine Cg.of (own := RX0) (cc := cX0_doAct) (maxL := 7) (ret := none) 3 (by decide) rfl rfl (Nat.le_of_ble_eq_true rfl) (fun X C hts V Rr => ?_)
  have F2 : FW X 2 := fun q h => hts q (List.mem_cons_of_mem _ (List.mem_append_left _ (List.mem_append_left _ (List.mem_append_right _ h))))
  have F0 : FW X 0 := fun q h => hts q (List.mem_cons_of_mem _ (List.mem_append_left _ (List.mem_append_right _ h)))
  have F3 : FW X 3 := fun q h => hts q (List.mem_cons_of_mem _ (List.mem_append_right _ h))
  show Gj X 0 0 w M J R 0 [some (.ref (w.2.1 i)), some (.ref (w.2.1 p)), some (.int a), some (.ref (w.2.1 q)), none, none, none] []
  refine g_aload_n C dX0_doAct_0 rfl ?_
  refine g_getr (j := (p + 2)) C F2 p_hi p_k (by decide) 1 (by decide) rfl (hts (.fieldLink RX0 70 "FallBench$Program" "firsts" "[I") (by decide +kernel)) rfl p_r1 dX0_doAct_1 ?_
  refine g_iload_n C dX0_doAct_4 rfl ?_
  refine g_iald C p_hi2 p_k2 (by rw [p_l2]; exact ha) rfl dX0_doAct_5 ?_
  refine g_callSf C hts V (gX0_doAct_X0_asRegister) rfl hdX0_asRegister (by decide) c_X0_asRegister rfl rfl (Nat.le_of_ble_eq_true rfl) dX0_doAct_6 ?_
  refine g_istore C V.2.1 dX0_doAct_9 (by decide) rfl ?_
  refine g_aload_n C dX0_doAct_11 rfl ?_
  refine g_getr (j := (p + 3)) C F2 p_hi p_k (by decide) 2 (by decide) rfl (hts (.fieldLink RX0 77 "FallBench$Program" "seconds" "[I") (by decide +kernel)) rfl p_r2 dX0_doAct_12 ?_
  refine g_iload_n C dX0_doAct_15 rfl ?_
  refine g_iald C p_hi3 p_k3 (by rw [p_l3]; exact ha) rfl dX0_doAct_16 ?_
  refine g_callSf C hts V (gX0_doAct_X0_asRegister) rfl hdX0_asRegister (by decide) c_X0_asRegister rfl rfl (Nat.le_of_ble_eq_true rfl) dX0_doAct_17 ?_
  refine g_istore C V.2.1 dX0_doAct_20 (by decide) rfl ?_
  refine g_aload_n C dX0_doAct_22 rfl ?_
  refine g_getr (j := (p + 4)) C F2 p_hi p_k (by decide) 3 (by decide) rfl (hts (.fieldLink RX0 80 "FallBench$Program" "numbers" "[I") (by decide +kernel)) rfl p_r3 dX0_doAct_23 ?_
  refine g_iload_n C dX0_doAct_26 rfl ?_
  refine g_iald C p_hi4 p_k4 (by rw [p_l4]; exact ha) rfl dX0_doAct_27 ?_
  refine g_istore C V.2.1 dX0_doAct_28 (by decide) rfl ?_
  refine g_aload_n C dX0_doAct_30 rfl ?_
  refine g_iload_n C dX0_doAct_31 rfl ?_
  refine g_iconst (v := 1) C dX0_doAct_32 (by decide) ?_
  refine g_iadd C dX0_doAct_33 ?_
  refine g_puti C F0 i_hi i_k (by decide) 12 (by decide) rfl (hts (.fieldLink RX0 49 "FallBench$Machine" "next" "I") (by decide +kernel)) rfl rfl rfl rfl dX0_doAct_34 ?_
  refine g_aload_n C dX0_doAct_37 rfl ?_
  refine g_getr (j := (p + 1)) C F2 p_hi p_k (by decide) 0 (by decide) rfl (hts (.fieldLink RX0 83 "FallBench$Program" "kinds" "[I") (by decide +kernel)) rfl p_r0 dX0_doAct_38 ?_
  refine g_iload_n C dX0_doAct_41 rfl ?_
  refine g_iald (v := M (p + 1) a.toNatClampNeg) C p_hi1 p_k1 (by rw [p_l1]; exact ha) (up2_n1 _ _ np1) dX0_doAct_42 ?_
  by_cases s43_0 : M (p + 1) a.toNatClampNeg = 0
  · refine g_tableIn (tgt := 112) C dX0_doAct_43 (by rw [s43_0]; decide) (by rw [s43_0]; decide) (by rw [s43_0]; rfl) (by decide) ?_
    have r0 := hok.1 (by rw [s43_0]; decide) (by rw [s43_0]; decide)
    have r8 := in40 r0
    rw [asR_id r0]
    refine g_aload_n C dX0_doAct_112 rfl ?_
    refine g_iload C dX0_doAct_113 rfl ?_
    refine g_iload_n C dX0_doAct_115 rfl ?_
    refine g_aload_n C dX0_doAct_116 rfl ?_
    refine g_callVf C hts V (i := i) (gX0_doAct_X0_readByte) rfl hdX0_readByte (by decide) (c_X0_readByte hi hq r8) i_hi i_k (by decide) rfl rfl (Nat.le_of_ble_eq_true rfl) dX0_doAct_117 ?_
    refine g_goto (tgt := 396) C dX0_doAct_120 (by decide) ?_
    refine g_aload_n C dX0_doAct_396 rfl ?_
    refine g_callVf C hts V (i := i) (gX0_doAct_X0_endedAtAct) rfl hdX0_endedAtAct (by decide) (c_X0_endedAtAct hi) i_hi i_k (by decide) rfl rfl (Nat.le_of_ble_eq_true rfl) dX0_doAct_397 ?_
    refine g_if_ne (tgt := 413) C dX0_doAct_400 (by decide) (fun c400 => ?_) (fun c400 => ?_)
    · exact g_vret C Rr ⟨rfl, ⟨rfl, by simp only [m_act, m_sw, m_fin, if_pos s43_0, if_neg c400]⟩⟩ dX0_doAct_413
    · refine g_aload_n C dX0_doAct_403 rfl ?_
      refine g_dup C dX0_doAct_404 rfl ?_
      refine g_geti C F0 i_hi i_k (by decide) 6 (by decide) rfl (hts (.fieldLink RX0 31 "FallBench$Machine" "steps" "I") (by decide +kernel)) rfl rfl dX0_doAct_405 ?_
      refine g_iconst (v := 1) C dX0_doAct_408 (by decide) ?_
      refine g_iadd C dX0_doAct_409 ?_
      refine g_puti C F0 i_hi i_k (by decide) 6 (by decide) rfl (hts (.fieldLink RX0 31 "FallBench$Machine" "steps" "I") (by decide +kernel)) rfl rfl rfl rfl dX0_doAct_410 ?_
      exact g_vret C Rr ⟨rfl, ⟨rfl, by simp only [m_act, m_sw, m_fin, if_pos s43_0, if_pos c400]⟩⟩ dX0_doAct_413
  by_cases s43_1 : M (p + 1) a.toNatClampNeg = 1
  · refine g_tableIn (tgt := 123) C dX0_doAct_43 (by rw [s43_1]; decide) (by rw [s43_1]; decide) (by rw [s43_1]; rfl) (by decide) ?_
    have r0 := hok.1 (by rw [s43_1]; decide) (by rw [s43_1]; decide)
    have r8 := in40 r0
    rw [asR_id r0]
    refine g_aload_n C dX0_doAct_123 rfl ?_
    refine g_iload C dX0_doAct_124 rfl ?_
    refine g_iload C dX0_doAct_126 rfl ?_
    refine g_iload_n C dX0_doAct_128 rfl ?_
    refine g_iconst (v := 0) C dX0_doAct_129 (by decide) ?_
    refine g_callVf C hts V (i := i) (gX0_doAct_X0_make) rfl hdX0_make (by decide) (c_X0_make hi r8) i_hi i_k (by decide) rfl rfl (Nat.le_of_ble_eq_true rfl) dX0_doAct_130 ?_
    refine g_goto (tgt := 396) C dX0_doAct_133 (by decide) ?_
    refine g_aload_n C dX0_doAct_396 rfl ?_
    refine g_callVf C hts V (i := i) (gX0_doAct_X0_endedAtAct) rfl hdX0_endedAtAct (by decide) (c_X0_endedAtAct hi) i_hi i_k (by decide) rfl rfl (Nat.le_of_ble_eq_true rfl) dX0_doAct_397 ?_
    refine g_if_ne (tgt := 413) C dX0_doAct_400 (by decide) (fun c400 => ?_) (fun c400 => ?_)
    · exact g_vret C Rr ⟨rfl, ⟨rfl, by simp only [m_act, m_sw, m_fin, if_neg s43_0, if_pos s43_1, if_neg c400]⟩⟩ dX0_doAct_413
    · refine g_aload_n C dX0_doAct_403 rfl ?_
      refine g_dup C dX0_doAct_404 rfl ?_
      refine g_geti C F0 i_hi i_k (by decide) 6 (by decide) rfl (hts (.fieldLink RX0 31 "FallBench$Machine" "steps" "I") (by decide +kernel)) rfl rfl dX0_doAct_405 ?_
      refine g_iconst (v := 1) C dX0_doAct_408 (by decide) ?_
      refine g_iadd C dX0_doAct_409 ?_
      refine g_puti C F0 i_hi i_k (by decide) 6 (by decide) rfl (hts (.fieldLink RX0 31 "FallBench$Machine" "steps" "I") (by decide +kernel)) rfl rfl rfl rfl dX0_doAct_410 ?_
      exact g_vret C Rr ⟨rfl, ⟨rfl, by simp only [m_act, m_sw, m_fin, if_neg s43_0, if_pos s43_1, if_pos c400]⟩⟩ dX0_doAct_413
  by_cases s43_2 : M (p + 1) a.toNatClampNeg = 2
  · refine g_tableIn (tgt := 136) C dX0_doAct_43 (by rw [s43_2]; decide) (by rw [s43_2]; decide) (by rw [s43_2]; rfl) (by decide) ?_
    have r0 := hok.1 (by rw [s43_2]; decide) (by rw [s43_2]; decide)
    have r8 := in40 r0
    rw [asR_id r0]
    have s0 := hok.2 (by rw [s43_2]; decide)
    have s8 := in40 s0
    rw [asR_id s0]
    refine g_aload_n C dX0_doAct_136 rfl ?_
    refine g_iload C dX0_doAct_137 rfl ?_
    refine g_iload C dX0_doAct_139 rfl ?_
    refine g_iconst (v := 0) C dX0_doAct_141 (by decide) ?_
    refine g_callVf C hts V (i := i) (gX0_doAct_X0_carry) rfl hdX0_carry (by decide) (c_X0_carry hi s8 r8) i_hi i_k (by decide) rfl rfl (Nat.le_of_ble_eq_true rfl) dX0_doAct_142 ?_
    refine g_goto (tgt := 396) C dX0_doAct_145 (by decide) ?_
    refine g_aload_n C dX0_doAct_396 rfl ?_
    refine g_callVf C hts V (i := i) (gX0_doAct_X0_endedAtAct) rfl hdX0_endedAtAct (by decide) (c_X0_endedAtAct hi) i_hi i_k (by decide) rfl rfl (Nat.le_of_ble_eq_true rfl) dX0_doAct_397 ?_
    refine g_if_ne (tgt := 413) C dX0_doAct_400 (by decide) (fun c400 => ?_) (fun c400 => ?_)
    · exact g_vret C Rr ⟨rfl, ⟨rfl, by simp only [m_act, m_sw, m_fin, if_neg s43_0, if_neg s43_1, if_pos s43_2, if_neg c400]⟩⟩ dX0_doAct_413
    · refine g_aload_n C dX0_doAct_403 rfl ?_
      refine g_dup C dX0_doAct_404 rfl ?_
      refine g_geti C F0 i_hi i_k (by decide) 6 (by decide) rfl (hts (.fieldLink RX0 31 "FallBench$Machine" "steps" "I") (by decide +kernel)) rfl rfl dX0_doAct_405 ?_
      refine g_iconst (v := 1) C dX0_doAct_408 (by decide) ?_
      refine g_iadd C dX0_doAct_409 ?_
      refine g_puti C F0 i_hi i_k (by decide) 6 (by decide) rfl (hts (.fieldLink RX0 31 "FallBench$Machine" "steps" "I") (by decide +kernel)) rfl rfl rfl rfl dX0_doAct_410 ?_
      exact g_vret C Rr ⟨rfl, ⟨rfl, by simp only [m_act, m_sw, m_fin, if_neg s43_0, if_neg s43_1, if_pos s43_2, if_pos c400]⟩⟩ dX0_doAct_413
  by_cases s43_3 : M (p + 1) a.toNatClampNeg = 3
  · refine g_tableIn (tgt := 148) C dX0_doAct_43 (by rw [s43_3]; decide) (by rw [s43_3]; decide) (by rw [s43_3]; rfl) (by decide) ?_
    have r0 := hok.1 (by rw [s43_3]; decide) (by rw [s43_3]; decide)
    have r8 := in40 r0
    rw [asR_id r0]
    have s0 := hok.2 (by rw [s43_3]; decide)
    have s8 := in40 s0
    rw [asR_id s0]
    refine g_aload_n C dX0_doAct_148 rfl ?_
    refine g_iload C dX0_doAct_149 rfl ?_
    refine g_aload_n C dX0_doAct_151 rfl ?_
    refine g_getr (j := (i + 1)) C F0 i_hi i_k (by decide) 0 (by decide) rfl (hts (.fieldLink RX0 9 "FallBench$Machine" "values" "[I") (by decide +kernel)) rfl i_r0 dX0_doAct_152 ?_
    refine g_iload C dX0_doAct_155 rfl ?_
    refine g_iald C i_hi1 i_k1 (by rw [i_l1]; exact r8) rfl dX0_doAct_157 ?_
    refine g_aload_n C dX0_doAct_158 rfl ?_
    refine g_getr (j := (i + 1)) C F0 i_hi i_k (by decide) 0 (by decide) rfl (hts (.fieldLink RX0 9 "FallBench$Machine" "values" "[I") (by decide +kernel)) rfl i_r0 dX0_doAct_159 ?_
    refine g_iload C dX0_doAct_162 rfl ?_
    refine g_iald C i_hi1 i_k1 (by rw [i_l1]; exact s8) rfl dX0_doAct_164 ?_
    refine g_iadd C dX0_doAct_165 ?_
    refine g_iload_n C dX0_doAct_166 rfl ?_
    refine g_aload_n C dX0_doAct_167 rfl ?_
    refine g_getr (j := (i + 3)) C F0 i_hi i_k (by decide) 2 (by decide) rfl (hts (.fieldLink RX0 18 "FallBench$Machine" "bytes" "[I") (by decide +kernel)) rfl i_r2 dX0_doAct_168 ?_
    refine g_iload C dX0_doAct_171 rfl ?_
    refine g_iald C i_hi3 i_k3 (by rw [i_l3]; exact r8) rfl dX0_doAct_173 ?_
    refine g_aload_n C dX0_doAct_174 rfl ?_
    refine g_getr (j := (i + 3)) C F0 i_hi i_k (by decide) 2 (by decide) rfl (hts (.fieldLink RX0 18 "FallBench$Machine" "bytes" "[I") (by decide +kernel)) rfl i_r2 dX0_doAct_175 ?_
    refine g_iload C dX0_doAct_178 rfl ?_
    refine g_iald C i_hi3 i_k3 (by rw [i_l3]; exact s8) rfl dX0_doAct_180 ?_
    refine g_ior C dX0_doAct_181 ?_
    refine g_callVf C hts V (i := i) (gX0_doAct_X0_make) rfl hdX0_make (by decide) (c_X0_make hi r8) i_hi i_k (by decide) rfl rfl (Nat.le_of_ble_eq_true rfl) dX0_doAct_182 ?_
    refine g_goto (tgt := 396) C dX0_doAct_185 (by decide) ?_
    refine g_aload_n C dX0_doAct_396 rfl ?_
    refine g_callVf C hts V (i := i) (gX0_doAct_X0_endedAtAct) rfl hdX0_endedAtAct (by decide) (c_X0_endedAtAct hi) i_hi i_k (by decide) rfl rfl (Nat.le_of_ble_eq_true rfl) dX0_doAct_397 ?_
    refine g_if_ne (tgt := 413) C dX0_doAct_400 (by decide) (fun c400 => ?_) (fun c400 => ?_)
    · exact g_vret C Rr ⟨rfl, ⟨rfl, by simp only [m_act, m_sw, m_fin, if_neg s43_0, if_neg s43_1, if_neg s43_2, if_pos s43_3, if_neg c400]⟩⟩ dX0_doAct_413
    · refine g_aload_n C dX0_doAct_403 rfl ?_
      refine g_dup C dX0_doAct_404 rfl ?_
      refine g_geti C F0 i_hi i_k (by decide) 6 (by decide) rfl (hts (.fieldLink RX0 31 "FallBench$Machine" "steps" "I") (by decide +kernel)) rfl rfl dX0_doAct_405 ?_
      refine g_iconst (v := 1) C dX0_doAct_408 (by decide) ?_
      refine g_iadd C dX0_doAct_409 ?_
      refine g_puti C F0 i_hi i_k (by decide) 6 (by decide) rfl (hts (.fieldLink RX0 31 "FallBench$Machine" "steps" "I") (by decide +kernel)) rfl rfl rfl rfl dX0_doAct_410 ?_
      exact g_vret C Rr ⟨rfl, ⟨rfl, by simp only [m_act, m_sw, m_fin, if_neg s43_0, if_neg s43_1, if_neg s43_2, if_pos s43_3, if_pos c400]⟩⟩ dX0_doAct_413
  by_cases s43_4 : M (p + 1) a.toNatClampNeg = 4
  · refine g_tableIn (tgt := 188) C dX0_doAct_43 (by rw [s43_4]; decide) (by rw [s43_4]; decide) (by rw [s43_4]; rfl) (by decide) ?_
    have r0 := hok.1 (by rw [s43_4]; decide) (by rw [s43_4]; decide)
    have r8 := in40 r0
    rw [asR_id r0]
    have s0 := hok.2 (by rw [s43_4]; decide)
    have s8 := in40 s0
    rw [asR_id s0]
    refine g_aload_n C dX0_doAct_188 rfl ?_
    refine g_iload C dX0_doAct_189 rfl ?_
    refine g_aload_n C dX0_doAct_191 rfl ?_
    refine g_getr (j := (i + 1)) C F0 i_hi i_k (by decide) 0 (by decide) rfl (hts (.fieldLink RX0 9 "FallBench$Machine" "values" "[I") (by decide +kernel)) rfl i_r0 dX0_doAct_192 ?_
    refine g_iload C dX0_doAct_195 rfl ?_
    refine g_iald C i_hi1 i_k1 (by rw [i_l1]; exact r8) rfl dX0_doAct_197 ?_
    refine g_aload_n C dX0_doAct_198 rfl ?_
    refine g_getr (j := (i + 1)) C F0 i_hi i_k (by decide) 0 (by decide) rfl (hts (.fieldLink RX0 9 "FallBench$Machine" "values" "[I") (by decide +kernel)) rfl i_r0 dX0_doAct_199 ?_
    refine g_iload C dX0_doAct_202 rfl ?_
    refine g_iald C i_hi1 i_k1 (by rw [i_l1]; exact s8) rfl dX0_doAct_204 ?_
    refine g_isub C dX0_doAct_205 ?_
    refine g_iload_n C dX0_doAct_206 rfl ?_
    refine g_aload_n C dX0_doAct_207 rfl ?_
    refine g_getr (j := (i + 3)) C F0 i_hi i_k (by decide) 2 (by decide) rfl (hts (.fieldLink RX0 18 "FallBench$Machine" "bytes" "[I") (by decide +kernel)) rfl i_r2 dX0_doAct_208 ?_
    refine g_iload C dX0_doAct_211 rfl ?_
    refine g_iald C i_hi3 i_k3 (by rw [i_l3]; exact r8) rfl dX0_doAct_213 ?_
    refine g_aload_n C dX0_doAct_214 rfl ?_
    refine g_getr (j := (i + 3)) C F0 i_hi i_k (by decide) 2 (by decide) rfl (hts (.fieldLink RX0 18 "FallBench$Machine" "bytes" "[I") (by decide +kernel)) rfl i_r2 dX0_doAct_215 ?_
    refine g_iload C dX0_doAct_218 rfl ?_
    refine g_iald C i_hi3 i_k3 (by rw [i_l3]; exact s8) rfl dX0_doAct_220 ?_
    refine g_ior C dX0_doAct_221 ?_
    refine g_callVf C hts V (i := i) (gX0_doAct_X0_make) rfl hdX0_make (by decide) (c_X0_make hi r8) i_hi i_k (by decide) rfl rfl (Nat.le_of_ble_eq_true rfl) dX0_doAct_222 ?_
    refine g_goto (tgt := 396) C dX0_doAct_225 (by decide) ?_
    refine g_aload_n C dX0_doAct_396 rfl ?_
    refine g_callVf C hts V (i := i) (gX0_doAct_X0_endedAtAct) rfl hdX0_endedAtAct (by decide) (c_X0_endedAtAct hi) i_hi i_k (by decide) rfl rfl (Nat.le_of_ble_eq_true rfl) dX0_doAct_397 ?_
    refine g_if_ne (tgt := 413) C dX0_doAct_400 (by decide) (fun c400 => ?_) (fun c400 => ?_)
    · exact g_vret C Rr ⟨rfl, ⟨rfl, by simp only [m_act, m_sw, m_fin, if_neg s43_0, if_neg s43_1, if_neg s43_2, if_neg s43_3, if_pos s43_4, if_neg c400]⟩⟩ dX0_doAct_413
    · refine g_aload_n C dX0_doAct_403 rfl ?_
      refine g_dup C dX0_doAct_404 rfl ?_
      refine g_geti C F0 i_hi i_k (by decide) 6 (by decide) rfl (hts (.fieldLink RX0 31 "FallBench$Machine" "steps" "I") (by decide +kernel)) rfl rfl dX0_doAct_405 ?_
      refine g_iconst (v := 1) C dX0_doAct_408 (by decide) ?_
      refine g_iadd C dX0_doAct_409 ?_
      refine g_puti C F0 i_hi i_k (by decide) 6 (by decide) rfl (hts (.fieldLink RX0 31 "FallBench$Machine" "steps" "I") (by decide +kernel)) rfl rfl rfl rfl dX0_doAct_410 ?_
      exact g_vret C Rr ⟨rfl, ⟨rfl, by simp only [m_act, m_sw, m_fin, if_neg s43_0, if_neg s43_1, if_neg s43_2, if_neg s43_3, if_pos s43_4, if_pos c400]⟩⟩ dX0_doAct_413
  by_cases s43_5 : M (p + 1) a.toNatClampNeg = 5
  · refine g_tableIn (tgt := 228) C dX0_doAct_43 (by rw [s43_5]; decide) (by rw [s43_5]; decide) (by rw [s43_5]; rfl) (by decide) ?_
    have r0 := hok.1 (by rw [s43_5]; decide) (by rw [s43_5]; decide)
    have r8 := in40 r0
    rw [asR_id r0]
    have s0 := hok.2 (by rw [s43_5]; decide)
    have s8 := in40 s0
    rw [asR_id s0]
    refine g_aload_n C dX0_doAct_228 rfl ?_
    refine g_iload C dX0_doAct_229 rfl ?_
    refine g_aload_n C dX0_doAct_231 rfl ?_
    refine g_getr (j := (i + 1)) C F0 i_hi i_k (by decide) 0 (by decide) rfl (hts (.fieldLink RX0 9 "FallBench$Machine" "values" "[I") (by decide +kernel)) rfl i_r0 dX0_doAct_232 ?_
    refine g_iload C dX0_doAct_235 rfl ?_
    refine g_iald C i_hi1 i_k1 (by rw [i_l1]; exact r8) rfl dX0_doAct_237 ?_
    refine g_aload_n C dX0_doAct_238 rfl ?_
    refine g_getr (j := (i + 1)) C F0 i_hi i_k (by decide) 0 (by decide) rfl (hts (.fieldLink RX0 9 "FallBench$Machine" "values" "[I") (by decide +kernel)) rfl i_r0 dX0_doAct_239 ?_
    refine g_iload C dX0_doAct_242 rfl ?_
    refine g_iald C i_hi1 i_k1 (by rw [i_l1]; exact s8) rfl dX0_doAct_244 ?_
    refine g_imul C dX0_doAct_245 ?_
    refine g_iload_n C dX0_doAct_246 rfl ?_
    refine g_aload_n C dX0_doAct_247 rfl ?_
    refine g_getr (j := (i + 3)) C F0 i_hi i_k (by decide) 2 (by decide) rfl (hts (.fieldLink RX0 18 "FallBench$Machine" "bytes" "[I") (by decide +kernel)) rfl i_r2 dX0_doAct_248 ?_
    refine g_iload C dX0_doAct_251 rfl ?_
    refine g_iald C i_hi3 i_k3 (by rw [i_l3]; exact r8) rfl dX0_doAct_253 ?_
    refine g_aload_n C dX0_doAct_254 rfl ?_
    refine g_getr (j := (i + 3)) C F0 i_hi i_k (by decide) 2 (by decide) rfl (hts (.fieldLink RX0 18 "FallBench$Machine" "bytes" "[I") (by decide +kernel)) rfl i_r2 dX0_doAct_255 ?_
    refine g_iload C dX0_doAct_258 rfl ?_
    refine g_iald C i_hi3 i_k3 (by rw [i_l3]; exact s8) rfl dX0_doAct_260 ?_
    refine g_ior C dX0_doAct_261 ?_
    refine g_callVf C hts V (i := i) (gX0_doAct_X0_make) rfl hdX0_make (by decide) (c_X0_make hi r8) i_hi i_k (by decide) rfl rfl (Nat.le_of_ble_eq_true rfl) dX0_doAct_262 ?_
    refine g_goto (tgt := 396) C dX0_doAct_265 (by decide) ?_
    refine g_aload_n C dX0_doAct_396 rfl ?_
    refine g_callVf C hts V (i := i) (gX0_doAct_X0_endedAtAct) rfl hdX0_endedAtAct (by decide) (c_X0_endedAtAct hi) i_hi i_k (by decide) rfl rfl (Nat.le_of_ble_eq_true rfl) dX0_doAct_397 ?_
    refine g_if_ne (tgt := 413) C dX0_doAct_400 (by decide) (fun c400 => ?_) (fun c400 => ?_)
    · exact g_vret C Rr ⟨rfl, ⟨rfl, by simp only [m_act, m_sw, m_fin, if_neg s43_0, if_neg s43_1, if_neg s43_2, if_neg s43_3, if_neg s43_4, if_pos s43_5, if_neg c400]⟩⟩ dX0_doAct_413
    · refine g_aload_n C dX0_doAct_403 rfl ?_
      refine g_dup C dX0_doAct_404 rfl ?_
      refine g_geti C F0 i_hi i_k (by decide) 6 (by decide) rfl (hts (.fieldLink RX0 31 "FallBench$Machine" "steps" "I") (by decide +kernel)) rfl rfl dX0_doAct_405 ?_
      refine g_iconst (v := 1) C dX0_doAct_408 (by decide) ?_
      refine g_iadd C dX0_doAct_409 ?_
      refine g_puti C F0 i_hi i_k (by decide) 6 (by decide) rfl (hts (.fieldLink RX0 31 "FallBench$Machine" "steps" "I") (by decide +kernel)) rfl rfl rfl rfl dX0_doAct_410 ?_
      exact g_vret C Rr ⟨rfl, ⟨rfl, by simp only [m_act, m_sw, m_fin, if_neg s43_0, if_neg s43_1, if_neg s43_2, if_neg s43_3, if_neg s43_4, if_pos s43_5, if_pos c400]⟩⟩ dX0_doAct_413
  by_cases s43_6 : M (p + 1) a.toNatClampNeg = 6
  · refine g_tableIn (tgt := 268) C dX0_doAct_43 (by rw [s43_6]; decide) (by rw [s43_6]; decide) (by rw [s43_6]; rfl) (by decide) ?_
    have r0 := hok.1 (by rw [s43_6]; decide) (by rw [s43_6]; decide)
    have r8 := in40 r0
    rw [asR_id r0]
    have s0 := hok.2 (by rw [s43_6]; decide)
    have s8 := in40 s0
    rw [asR_id s0]
    refine g_aload_n C dX0_doAct_268 rfl ?_
    refine g_iload C dX0_doAct_269 rfl ?_
    refine g_iload C dX0_doAct_271 rfl ?_
    refine g_iload_n C dX0_doAct_273 rfl ?_
    refine g_callVf C hts V (i := i) (gX0_doAct_X0_load) rfl hdX0_load (by decide) (c_X0_load hi r8 s8) i_hi i_k (by decide) rfl rfl (Nat.le_of_ble_eq_true rfl) dX0_doAct_274 ?_
    refine g_goto (tgt := 396) C dX0_doAct_277 (by decide) ?_
    refine g_aload_n C dX0_doAct_396 rfl ?_
    refine g_callVf C hts V (i := i) (gX0_doAct_X0_endedAtAct) rfl hdX0_endedAtAct (by decide) (c_X0_endedAtAct hi) i_hi i_k (by decide) rfl rfl (Nat.le_of_ble_eq_true rfl) dX0_doAct_397 ?_
    refine g_if_ne (tgt := 413) C dX0_doAct_400 (by decide) (fun c400 => ?_) (fun c400 => ?_)
    · exact g_vret C Rr ⟨rfl, ⟨rfl, by simp only [m_act, m_sw, m_fin, if_neg s43_0, if_neg s43_1, if_neg s43_2, if_neg s43_3, if_neg s43_4, if_neg s43_5, if_pos s43_6, if_neg c400]⟩⟩ dX0_doAct_413
    · refine g_aload_n C dX0_doAct_403 rfl ?_
      refine g_dup C dX0_doAct_404 rfl ?_
      refine g_geti C F0 i_hi i_k (by decide) 6 (by decide) rfl (hts (.fieldLink RX0 31 "FallBench$Machine" "steps" "I") (by decide +kernel)) rfl rfl dX0_doAct_405 ?_
      refine g_iconst (v := 1) C dX0_doAct_408 (by decide) ?_
      refine g_iadd C dX0_doAct_409 ?_
      refine g_puti C F0 i_hi i_k (by decide) 6 (by decide) rfl (hts (.fieldLink RX0 31 "FallBench$Machine" "steps" "I") (by decide +kernel)) rfl rfl rfl rfl dX0_doAct_410 ?_
      exact g_vret C Rr ⟨rfl, ⟨rfl, by simp only [m_act, m_sw, m_fin, if_neg s43_0, if_neg s43_1, if_neg s43_2, if_neg s43_3, if_neg s43_4, if_neg s43_5, if_pos s43_6, if_pos c400]⟩⟩ dX0_doAct_413
  by_cases s43_7 : M (p + 1) a.toNatClampNeg = 7
  · refine g_tableIn (tgt := 280) C dX0_doAct_43 (by rw [s43_7]; decide) (by rw [s43_7]; decide) (by rw [s43_7]; rfl) (by decide) ?_
    have r0 := hok.1 (by rw [s43_7]; decide) (by rw [s43_7]; decide)
    have r8 := in40 r0
    rw [asR_id r0]
    have s0 := hok.2 (by rw [s43_7]; decide)
    have s8 := in40 s0
    rw [asR_id s0]
    refine g_aload_n C dX0_doAct_280 rfl ?_
    refine g_iload C dX0_doAct_281 rfl ?_
    refine g_iload C dX0_doAct_283 rfl ?_
    refine g_iload_n C dX0_doAct_285 rfl ?_
    refine g_callVf C hts V (i := i) (gX0_doAct_X0_store) rfl hdX0_store (by decide) (c_X0_store hi r8 s8) i_hi i_k (by decide) rfl rfl (Nat.le_of_ble_eq_true rfl) dX0_doAct_286 ?_
    refine g_goto (tgt := 396) C dX0_doAct_289 (by decide) ?_
    refine g_aload_n C dX0_doAct_396 rfl ?_
    refine g_callVf C hts V (i := i) (gX0_doAct_X0_endedAtAct) rfl hdX0_endedAtAct (by decide) (c_X0_endedAtAct hi) i_hi i_k (by decide) rfl rfl (Nat.le_of_ble_eq_true rfl) dX0_doAct_397 ?_
    refine g_if_ne (tgt := 413) C dX0_doAct_400 (by decide) (fun c400 => ?_) (fun c400 => ?_)
    · exact g_vret C Rr ⟨rfl, ⟨rfl, by simp only [m_act, m_sw, m_fin, if_neg s43_0, if_neg s43_1, if_neg s43_2, if_neg s43_3, if_neg s43_4, if_neg s43_5, if_neg s43_6, if_pos s43_7, if_neg c400]⟩⟩ dX0_doAct_413
    · refine g_aload_n C dX0_doAct_403 rfl ?_
      refine g_dup C dX0_doAct_404 rfl ?_
      refine g_geti C F0 i_hi i_k (by decide) 6 (by decide) rfl (hts (.fieldLink RX0 31 "FallBench$Machine" "steps" "I") (by decide +kernel)) rfl rfl dX0_doAct_405 ?_
      refine g_iconst (v := 1) C dX0_doAct_408 (by decide) ?_
      refine g_iadd C dX0_doAct_409 ?_
      refine g_puti C F0 i_hi i_k (by decide) 6 (by decide) rfl (hts (.fieldLink RX0 31 "FallBench$Machine" "steps" "I") (by decide +kernel)) rfl rfl rfl rfl dX0_doAct_410 ?_
      exact g_vret C Rr ⟨rfl, ⟨rfl, by simp only [m_act, m_sw, m_fin, if_neg s43_0, if_neg s43_1, if_neg s43_2, if_neg s43_3, if_neg s43_4, if_neg s43_5, if_neg s43_6, if_pos s43_7, if_pos c400]⟩⟩ dX0_doAct_413
  by_cases s43_8 : M (p + 1) a.toNatClampNeg = 8
  · refine g_tableIn (tgt := 292) C dX0_doAct_43 (by rw [s43_8]; decide) (by rw [s43_8]; decide) (by rw [s43_8]; rfl) (by decide) ?_
    have r0 := hok.1 (by rw [s43_8]; decide) (by rw [s43_8]; decide)
    have r8 := in40 r0
    rw [asR_id r0]
    have s0 := hok.2 (by rw [s43_8]; decide)
    have s8 := in40 s0
    rw [asR_id s0]
    refine g_aload_n C dX0_doAct_292 rfl ?_
    refine g_aload_n C dX0_doAct_293 rfl ?_
    refine g_getr (j := (i + 1)) C F0 i_hi i_k (by decide) 0 (by decide) rfl (hts (.fieldLink RX0 9 "FallBench$Machine" "values" "[I") (by decide +kernel)) rfl i_r0 dX0_doAct_294 ?_
    refine g_iload C dX0_doAct_297 rfl ?_
    refine g_iald C i_hi1 i_k1 (by rw [i_l1]; exact r8) rfl dX0_doAct_299 ?_
    refine g_aload_n C dX0_doAct_300 rfl ?_
    refine g_getr (j := (i + 1)) C F0 i_hi i_k (by decide) 0 (by decide) rfl (hts (.fieldLink RX0 9 "FallBench$Machine" "values" "[I") (by decide +kernel)) rfl i_r0 dX0_doAct_301 ?_
    refine g_iload C dX0_doAct_304 rfl ?_
    refine g_iald C i_hi1 i_k1 (by rw [i_l1]; exact s8) rfl dX0_doAct_306 ?_
    refine g_icmp_ge (tgt := 314) C dX0_doAct_307 (by decide) (fun c307 => ?_) (fun c307 => ?_)
    · refine g_iconst (v := 0) C dX0_doAct_314 (by decide) ?_
      refine g_iload C dX0_doAct_315 rfl ?_
      refine g_callVf C hts V (i := i) (gX0_doAct_X0_goIf) rfl hdX0_goIf (by decide) (c_X0_goIf hi) i_hi i_k (by decide) rfl rfl (Nat.le_of_ble_eq_true rfl) dX0_doAct_317 ?_
      refine g_goto (tgt := 396) C dX0_doAct_320 (by decide) ?_
      refine g_aload_n C dX0_doAct_396 rfl ?_
      refine g_callVf C hts V (i := i) (gX0_doAct_X0_endedAtAct) rfl hdX0_endedAtAct (by decide) (c_X0_endedAtAct hi) i_hi i_k (by decide) rfl rfl (Nat.le_of_ble_eq_true rfl) dX0_doAct_397 ?_
      refine g_if_ne (tgt := 413) C dX0_doAct_400 (by decide) (fun c400 => ?_) (fun c400 => ?_)
      · exact g_vret C Rr ⟨rfl, ⟨rfl, by simp only [m_act, m_sw, m_fin, if_neg s43_0, if_neg s43_1, if_neg s43_2, if_neg s43_3, if_neg s43_4, if_neg s43_5, if_neg s43_6, if_neg s43_7, if_pos s43_8, if_pos c307, if_neg c400]⟩⟩ dX0_doAct_413
      · refine g_aload_n C dX0_doAct_403 rfl ?_
        refine g_dup C dX0_doAct_404 rfl ?_
        refine g_geti C F0 i_hi i_k (by decide) 6 (by decide) rfl (hts (.fieldLink RX0 31 "FallBench$Machine" "steps" "I") (by decide +kernel)) rfl rfl dX0_doAct_405 ?_
        refine g_iconst (v := 1) C dX0_doAct_408 (by decide) ?_
        refine g_iadd C dX0_doAct_409 ?_
        refine g_puti C F0 i_hi i_k (by decide) 6 (by decide) rfl (hts (.fieldLink RX0 31 "FallBench$Machine" "steps" "I") (by decide +kernel)) rfl rfl rfl rfl dX0_doAct_410 ?_
        exact g_vret C Rr ⟨rfl, ⟨rfl, by simp only [m_act, m_sw, m_fin, if_neg s43_0, if_neg s43_1, if_neg s43_2, if_neg s43_3, if_neg s43_4, if_neg s43_5, if_neg s43_6, if_neg s43_7, if_pos s43_8, if_pos c307, if_pos c400]⟩⟩ dX0_doAct_413
    · refine g_iconst (v := 1) C dX0_doAct_310 (by decide) ?_
      refine g_goto (tgt := 315) C dX0_doAct_311 (by decide) ?_
      refine g_iload C dX0_doAct_315 rfl ?_
      refine g_callVf C hts V (i := i) (gX0_doAct_X0_goIf) rfl hdX0_goIf (by decide) (c_X0_goIf hi) i_hi i_k (by decide) rfl rfl (Nat.le_of_ble_eq_true rfl) dX0_doAct_317 ?_
      refine g_goto (tgt := 396) C dX0_doAct_320 (by decide) ?_
      refine g_aload_n C dX0_doAct_396 rfl ?_
      refine g_callVf C hts V (i := i) (gX0_doAct_X0_endedAtAct) rfl hdX0_endedAtAct (by decide) (c_X0_endedAtAct hi) i_hi i_k (by decide) rfl rfl (Nat.le_of_ble_eq_true rfl) dX0_doAct_397 ?_
      refine g_if_ne (tgt := 413) C dX0_doAct_400 (by decide) (fun c400 => ?_) (fun c400 => ?_)
      · exact g_vret C Rr ⟨rfl, ⟨rfl, by simp only [m_act, m_sw, m_fin, if_neg s43_0, if_neg s43_1, if_neg s43_2, if_neg s43_3, if_neg s43_4, if_neg s43_5, if_neg s43_6, if_neg s43_7, if_pos s43_8, if_neg c307, if_neg c400]⟩⟩ dX0_doAct_413
      · refine g_aload_n C dX0_doAct_403 rfl ?_
        refine g_dup C dX0_doAct_404 rfl ?_
        refine g_geti C F0 i_hi i_k (by decide) 6 (by decide) rfl (hts (.fieldLink RX0 31 "FallBench$Machine" "steps" "I") (by decide +kernel)) rfl rfl dX0_doAct_405 ?_
        refine g_iconst (v := 1) C dX0_doAct_408 (by decide) ?_
        refine g_iadd C dX0_doAct_409 ?_
        refine g_puti C F0 i_hi i_k (by decide) 6 (by decide) rfl (hts (.fieldLink RX0 31 "FallBench$Machine" "steps" "I") (by decide +kernel)) rfl rfl rfl rfl dX0_doAct_410 ?_
        exact g_vret C Rr ⟨rfl, ⟨rfl, by simp only [m_act, m_sw, m_fin, if_neg s43_0, if_neg s43_1, if_neg s43_2, if_neg s43_3, if_neg s43_4, if_neg s43_5, if_neg s43_6, if_neg s43_7, if_pos s43_8, if_neg c307, if_pos c400]⟩⟩ dX0_doAct_413
  by_cases s43_9 : M (p + 1) a.toNatClampNeg = 9
  · refine g_tableIn (tgt := 323) C dX0_doAct_43 (by rw [s43_9]; decide) (by rw [s43_9]; decide) (by rw [s43_9]; rfl) (by decide) ?_
    have r0 := hok.1 (by rw [s43_9]; decide) (by rw [s43_9]; decide)
    have r8 := in40 r0
    rw [asR_id r0]
    have s0 := hok.2 (by rw [s43_9]; decide)
    have s8 := in40 s0
    rw [asR_id s0]
    refine g_aload_n C dX0_doAct_323 rfl ?_
    refine g_aload_n C dX0_doAct_324 rfl ?_
    refine g_getr (j := (i + 1)) C F0 i_hi i_k (by decide) 0 (by decide) rfl (hts (.fieldLink RX0 9 "FallBench$Machine" "values" "[I") (by decide +kernel)) rfl i_r0 dX0_doAct_325 ?_
    refine g_iload C dX0_doAct_328 rfl ?_
    refine g_iald C i_hi1 i_k1 (by rw [i_l1]; exact r8) rfl dX0_doAct_330 ?_
    refine g_aload_n C dX0_doAct_331 rfl ?_
    refine g_getr (j := (i + 1)) C F0 i_hi i_k (by decide) 0 (by decide) rfl (hts (.fieldLink RX0 9 "FallBench$Machine" "values" "[I") (by decide +kernel)) rfl i_r0 dX0_doAct_332 ?_
    refine g_iload C dX0_doAct_335 rfl ?_
    refine g_iald C i_hi1 i_k1 (by rw [i_l1]; exact s8) rfl dX0_doAct_337 ?_
    refine g_icmp_ne (tgt := 345) C dX0_doAct_338 (by decide) (fun c338 => ?_) (fun c338 => ?_)
    · refine g_iconst (v := 0) C dX0_doAct_345 (by decide) ?_
      refine g_iload C dX0_doAct_346 rfl ?_
      refine g_callVf C hts V (i := i) (gX0_doAct_X0_goIf) rfl hdX0_goIf (by decide) (c_X0_goIf hi) i_hi i_k (by decide) rfl rfl (Nat.le_of_ble_eq_true rfl) dX0_doAct_348 ?_
      refine g_goto (tgt := 396) C dX0_doAct_351 (by decide) ?_
      refine g_aload_n C dX0_doAct_396 rfl ?_
      refine g_callVf C hts V (i := i) (gX0_doAct_X0_endedAtAct) rfl hdX0_endedAtAct (by decide) (c_X0_endedAtAct hi) i_hi i_k (by decide) rfl rfl (Nat.le_of_ble_eq_true rfl) dX0_doAct_397 ?_
      refine g_if_ne (tgt := 413) C dX0_doAct_400 (by decide) (fun c400 => ?_) (fun c400 => ?_)
      · exact g_vret C Rr ⟨rfl, ⟨rfl, by simp only [m_act, m_sw, m_fin, if_neg s43_0, if_neg s43_1, if_neg s43_2, if_neg s43_3, if_neg s43_4, if_neg s43_5, if_neg s43_6, if_neg s43_7, if_neg s43_8, if_pos s43_9, if_neg c338, if_neg c400]⟩⟩ dX0_doAct_413
      · refine g_aload_n C dX0_doAct_403 rfl ?_
        refine g_dup C dX0_doAct_404 rfl ?_
        refine g_geti C F0 i_hi i_k (by decide) 6 (by decide) rfl (hts (.fieldLink RX0 31 "FallBench$Machine" "steps" "I") (by decide +kernel)) rfl rfl dX0_doAct_405 ?_
        refine g_iconst (v := 1) C dX0_doAct_408 (by decide) ?_
        refine g_iadd C dX0_doAct_409 ?_
        refine g_puti C F0 i_hi i_k (by decide) 6 (by decide) rfl (hts (.fieldLink RX0 31 "FallBench$Machine" "steps" "I") (by decide +kernel)) rfl rfl rfl rfl dX0_doAct_410 ?_
        exact g_vret C Rr ⟨rfl, ⟨rfl, by simp only [m_act, m_sw, m_fin, if_neg s43_0, if_neg s43_1, if_neg s43_2, if_neg s43_3, if_neg s43_4, if_neg s43_5, if_neg s43_6, if_neg s43_7, if_neg s43_8, if_pos s43_9, if_neg c338, if_pos c400]⟩⟩ dX0_doAct_413
    · refine g_iconst (v := 1) C dX0_doAct_341 (by decide) ?_
      refine g_goto (tgt := 346) C dX0_doAct_342 (by decide) ?_
      refine g_iload C dX0_doAct_346 rfl ?_
      refine g_callVf C hts V (i := i) (gX0_doAct_X0_goIf) rfl hdX0_goIf (by decide) (c_X0_goIf hi) i_hi i_k (by decide) rfl rfl (Nat.le_of_ble_eq_true rfl) dX0_doAct_348 ?_
      refine g_goto (tgt := 396) C dX0_doAct_351 (by decide) ?_
      refine g_aload_n C dX0_doAct_396 rfl ?_
      refine g_callVf C hts V (i := i) (gX0_doAct_X0_endedAtAct) rfl hdX0_endedAtAct (by decide) (c_X0_endedAtAct hi) i_hi i_k (by decide) rfl rfl (Nat.le_of_ble_eq_true rfl) dX0_doAct_397 ?_
      refine g_if_ne (tgt := 413) C dX0_doAct_400 (by decide) (fun c400 => ?_) (fun c400 => ?_)
      · exact g_vret C Rr ⟨rfl, ⟨rfl, by simp only [m_act, m_sw, m_fin, if_neg s43_0, if_neg s43_1, if_neg s43_2, if_neg s43_3, if_neg s43_4, if_neg s43_5, if_neg s43_6, if_neg s43_7, if_neg s43_8, if_pos s43_9, if_pos c338, if_neg c400]⟩⟩ dX0_doAct_413
      · refine g_aload_n C dX0_doAct_403 rfl ?_
        refine g_dup C dX0_doAct_404 rfl ?_
        refine g_geti C F0 i_hi i_k (by decide) 6 (by decide) rfl (hts (.fieldLink RX0 31 "FallBench$Machine" "steps" "I") (by decide +kernel)) rfl rfl dX0_doAct_405 ?_
        refine g_iconst (v := 1) C dX0_doAct_408 (by decide) ?_
        refine g_iadd C dX0_doAct_409 ?_
        refine g_puti C F0 i_hi i_k (by decide) 6 (by decide) rfl (hts (.fieldLink RX0 31 "FallBench$Machine" "steps" "I") (by decide +kernel)) rfl rfl rfl rfl dX0_doAct_410 ?_
        exact g_vret C Rr ⟨rfl, ⟨rfl, by simp only [m_act, m_sw, m_fin, if_neg s43_0, if_neg s43_1, if_neg s43_2, if_neg s43_3, if_neg s43_4, if_neg s43_5, if_neg s43_6, if_neg s43_7, if_neg s43_8, if_pos s43_9, if_pos c338, if_pos c400]⟩⟩ dX0_doAct_413
  by_cases s43_10 : M (p + 1) a.toNatClampNeg = 10
  · refine g_tableIn (tgt := 354) C dX0_doAct_43 (by rw [s43_10]; decide) (by rw [s43_10]; decide) (by rw [s43_10]; rfl) (by decide) ?_
    refine g_aload_n C dX0_doAct_354 rfl ?_
    refine g_iload C dX0_doAct_355 rfl ?_
    refine g_puti C F0 i_hi i_k (by decide) 12 (by decide) rfl (hts (.fieldLink RX0 49 "FallBench$Machine" "next" "I") (by decide +kernel)) rfl rfl rfl rfl dX0_doAct_357 ?_
    refine g_goto (tgt := 396) C dX0_doAct_360 (by decide) ?_
    refine g_aload_n C dX0_doAct_396 rfl ?_
    refine g_callVf C hts V (i := i) (gX0_doAct_X0_endedAtAct) rfl hdX0_endedAtAct (by decide) (c_X0_endedAtAct hi) i_hi i_k (by decide) rfl rfl (Nat.le_of_ble_eq_true rfl) dX0_doAct_397 ?_
    refine g_if_ne (tgt := 413) C dX0_doAct_400 (by decide) (fun c400 => ?_) (fun c400 => ?_)
    · exact g_vret C Rr ⟨rfl, ⟨rfl, by simp only [m_act, m_sw, m_fin, if_neg s43_0, if_neg s43_1, if_neg s43_2, if_neg s43_3, if_neg s43_4, if_neg s43_5, if_neg s43_6, if_neg s43_7, if_neg s43_8, if_neg s43_9, if_pos s43_10, if_neg c400]⟩⟩ dX0_doAct_413
    · refine g_aload_n C dX0_doAct_403 rfl ?_
      refine g_dup C dX0_doAct_404 rfl ?_
      refine g_geti C F0 i_hi i_k (by decide) 6 (by decide) rfl (hts (.fieldLink RX0 31 "FallBench$Machine" "steps" "I") (by decide +kernel)) rfl rfl dX0_doAct_405 ?_
      refine g_iconst (v := 1) C dX0_doAct_408 (by decide) ?_
      refine g_iadd C dX0_doAct_409 ?_
      refine g_puti C F0 i_hi i_k (by decide) 6 (by decide) rfl (hts (.fieldLink RX0 31 "FallBench$Machine" "steps" "I") (by decide +kernel)) rfl rfl rfl rfl dX0_doAct_410 ?_
      exact g_vret C Rr ⟨rfl, ⟨rfl, by simp only [m_act, m_sw, m_fin, if_neg s43_0, if_neg s43_1, if_neg s43_2, if_neg s43_3, if_neg s43_4, if_neg s43_5, if_neg s43_6, if_neg s43_7, if_neg s43_8, if_neg s43_9, if_pos s43_10, if_pos c400]⟩⟩ dX0_doAct_413
  by_cases s43_11 : M (p + 1) a.toNatClampNeg = 11
  · refine g_tableIn (tgt := 363) C dX0_doAct_43 (by rw [s43_11]; decide) (by rw [s43_11]; decide) (by rw [s43_11]; rfl) (by decide) ?_
    have r0 := hok.1 (by rw [s43_11]; decide) (by rw [s43_11]; decide)
    have r8 := in40 r0
    rw [asR_id r0]
    refine g_aload_n C dX0_doAct_363 rfl ?_
    refine g_iload C dX0_doAct_364 rfl ?_
    refine g_iload_n C dX0_doAct_366 rfl ?_
    refine g_aload_n C dX0_doAct_367 rfl ?_
    refine g_geti (v := M p 4) C F2 p_hi p_k (by decide) 4 (by decide) rfl (hts (.fieldLink RX0 55 "FallBench$Program" "count" "I") (by decide +kernel)) rfl (up2_n1 _ _ np) dX0_doAct_368 ?_
    refine g_callVf C hts V (i := i) (gX0_doAct_X0_jump) rfl hdX0_jump (by decide) (c_X0_jump hi r8) i_hi i_k (by decide) rfl rfl (Nat.le_of_ble_eq_true rfl) dX0_doAct_371 ?_
    refine g_goto (tgt := 396) C dX0_doAct_374 (by decide) ?_
    refine g_aload_n C dX0_doAct_396 rfl ?_
    refine g_callVf C hts V (i := i) (gX0_doAct_X0_endedAtAct) rfl hdX0_endedAtAct (by decide) (c_X0_endedAtAct hi) i_hi i_k (by decide) rfl rfl (Nat.le_of_ble_eq_true rfl) dX0_doAct_397 ?_
    refine g_if_ne (tgt := 413) C dX0_doAct_400 (by decide) (fun c400 => ?_) (fun c400 => ?_)
    · exact g_vret C Rr ⟨rfl, ⟨rfl, by simp only [m_act, m_sw, m_fin, if_neg s43_0, if_neg s43_1, if_neg s43_2, if_neg s43_3, if_neg s43_4, if_neg s43_5, if_neg s43_6, if_neg s43_7, if_neg s43_8, if_neg s43_9, if_neg s43_10, if_pos s43_11, if_neg c400]⟩⟩ dX0_doAct_413
    · refine g_aload_n C dX0_doAct_403 rfl ?_
      refine g_dup C dX0_doAct_404 rfl ?_
      refine g_geti C F0 i_hi i_k (by decide) 6 (by decide) rfl (hts (.fieldLink RX0 31 "FallBench$Machine" "steps" "I") (by decide +kernel)) rfl rfl dX0_doAct_405 ?_
      refine g_iconst (v := 1) C dX0_doAct_408 (by decide) ?_
      refine g_iadd C dX0_doAct_409 ?_
      refine g_puti C F0 i_hi i_k (by decide) 6 (by decide) rfl (hts (.fieldLink RX0 31 "FallBench$Machine" "steps" "I") (by decide +kernel)) rfl rfl rfl rfl dX0_doAct_410 ?_
      exact g_vret C Rr ⟨rfl, ⟨rfl, by simp only [m_act, m_sw, m_fin, if_neg s43_0, if_neg s43_1, if_neg s43_2, if_neg s43_3, if_neg s43_4, if_neg s43_5, if_neg s43_6, if_neg s43_7, if_neg s43_8, if_neg s43_9, if_neg s43_10, if_pos s43_11, if_pos c400]⟩⟩ dX0_doAct_413
  by_cases s43_12 : M (p + 1) a.toNatClampNeg = 12
  · refine g_tableIn (tgt := 377) C dX0_doAct_43 (by rw [s43_12]; decide) (by rw [s43_12]; decide) (by rw [s43_12]; rfl) (by decide) ?_
    have r0 := hok.1 (by rw [s43_12]; decide) (by rw [s43_12]; decide)
    have r8 := in40 r0
    rw [asR_id r0]
    refine g_aload_n C dX0_doAct_377 rfl ?_
    refine g_aload_n C dX0_doAct_378 rfl ?_
    refine g_getr (j := (i + 1)) C F0 i_hi i_k (by decide) 0 (by decide) rfl (hts (.fieldLink RX0 9 "FallBench$Machine" "values" "[I") (by decide +kernel)) rfl i_r0 dX0_doAct_379 ?_
    refine g_iload C dX0_doAct_382 rfl ?_
    refine g_iald C i_hi1 i_k1 (by rw [i_l1]; exact r8) rfl dX0_doAct_384 ?_
    refine g_callVf C hts V (i := i) (gX0_doAct_X0_tell) rfl hdX0_tell (by decide) (c_X0_tell hi (by rw [up2_n2 _ _ (by decide)]; exact h4)) i_hi i_k (by decide) rfl rfl (Nat.le_of_ble_eq_true rfl) dX0_doAct_385 ?_
    refine g_goto (tgt := 396) C dX0_doAct_388 (by decide) ?_
    refine g_aload_n C dX0_doAct_396 rfl ?_
    refine g_callVf C hts V (i := i) (gX0_doAct_X0_endedAtAct) rfl hdX0_endedAtAct (by decide) (c_X0_endedAtAct hi) i_hi i_k (by decide) rfl rfl (Nat.le_of_ble_eq_true rfl) dX0_doAct_397 ?_
    refine g_if_ne (tgt := 413) C dX0_doAct_400 (by decide) (fun c400 => ?_) (fun c400 => ?_)
    · exact g_vret C Rr ⟨rfl, ⟨rfl, by simp only [m_act, m_sw, m_fin, if_neg s43_0, if_neg s43_1, if_neg s43_2, if_neg s43_3, if_neg s43_4, if_neg s43_5, if_neg s43_6, if_neg s43_7, if_neg s43_8, if_neg s43_9, if_neg s43_10, if_neg s43_11, if_pos s43_12, if_neg c400]⟩⟩ dX0_doAct_413
    · refine g_aload_n C dX0_doAct_403 rfl ?_
      refine g_dup C dX0_doAct_404 rfl ?_
      refine g_geti C F0 i_hi i_k (by decide) 6 (by decide) rfl (hts (.fieldLink RX0 31 "FallBench$Machine" "steps" "I") (by decide +kernel)) rfl rfl dX0_doAct_405 ?_
      refine g_iconst (v := 1) C dX0_doAct_408 (by decide) ?_
      refine g_iadd C dX0_doAct_409 ?_
      refine g_puti C F0 i_hi i_k (by decide) 6 (by decide) rfl (hts (.fieldLink RX0 31 "FallBench$Machine" "steps" "I") (by decide +kernel)) rfl rfl rfl rfl dX0_doAct_410 ?_
      exact g_vret C Rr ⟨rfl, ⟨rfl, by simp only [m_act, m_sw, m_fin, if_neg s43_0, if_neg s43_1, if_neg s43_2, if_neg s43_3, if_neg s43_4, if_neg s43_5, if_neg s43_6, if_neg s43_7, if_neg s43_8, if_neg s43_9, if_neg s43_10, if_neg s43_11, if_pos s43_12, if_pos c400]⟩⟩ dX0_doAct_413
  by_cases s43_13 : M (p + 1) a.toNatClampNeg = 13
  · refine g_tableIn (tgt := 391) C dX0_doAct_43 (by rw [s43_13]; decide) (by rw [s43_13]; decide) (by rw [s43_13]; rfl) (by decide) ?_
    refine g_aload_n C dX0_doAct_391 rfl ?_
    refine g_iconst (v := 0) C dX0_doAct_392 (by decide) ?_
    refine g_puti C F0 i_hi i_k (by decide) 7 (by decide) rfl (hts (.fieldLink RX0 34 "FallBench$Machine" "ended" "I") (by decide +kernel)) rfl rfl rfl rfl dX0_doAct_393 ?_
    refine g_aload_n C dX0_doAct_396 rfl ?_
    refine g_callVf C hts V (i := i) (gX0_doAct_X0_endedAtAct) rfl hdX0_endedAtAct (by decide) (c_X0_endedAtAct hi) i_hi i_k (by decide) rfl rfl (Nat.le_of_ble_eq_true rfl) dX0_doAct_397 ?_
    refine g_if_ne (tgt := 413) C dX0_doAct_400 (by decide) (fun c400 => ?_) (fun c400 => ?_)
    · exact g_vret C Rr ⟨rfl, ⟨rfl, by simp only [m_act, m_sw, m_fin, if_neg s43_0, if_neg s43_1, if_neg s43_2, if_neg s43_3, if_neg s43_4, if_neg s43_5, if_neg s43_6, if_neg s43_7, if_neg s43_8, if_neg s43_9, if_neg s43_10, if_neg s43_11, if_neg s43_12, if_pos s43_13, if_neg c400]⟩⟩ dX0_doAct_413
    · refine g_aload_n C dX0_doAct_403 rfl ?_
      refine g_dup C dX0_doAct_404 rfl ?_
      refine g_geti C F0 i_hi i_k (by decide) 6 (by decide) rfl (hts (.fieldLink RX0 31 "FallBench$Machine" "steps" "I") (by decide +kernel)) rfl rfl dX0_doAct_405 ?_
      refine g_iconst (v := 1) C dX0_doAct_408 (by decide) ?_
      refine g_iadd C dX0_doAct_409 ?_
      refine g_puti C F0 i_hi i_k (by decide) 6 (by decide) rfl (hts (.fieldLink RX0 31 "FallBench$Machine" "steps" "I") (by decide +kernel)) rfl rfl rfl rfl dX0_doAct_410 ?_
      exact g_vret C Rr ⟨rfl, ⟨rfl, by simp only [m_act, m_sw, m_fin, if_neg s43_0, if_neg s43_1, if_neg s43_2, if_neg s43_3, if_neg s43_4, if_neg s43_5, if_neg s43_6, if_neg s43_7, if_neg s43_8, if_neg s43_9, if_neg s43_10, if_neg s43_11, if_neg s43_12, if_pos s43_13, if_pos c400]⟩⟩ dX0_doAct_413
  refine g_tableOut (tgt := 391) C dX0_doAct_43 (by have e0 := lv_neT s43_0 (a := 0) (by decide); have e1 := lv_neT s43_1 (a := 1) (by decide); have e2 := lv_neT s43_2 (a := 2) (by decide); have e3 := lv_neT s43_3 (a := 3) (by decide); have e4 := lv_neT s43_4 (a := 4) (by decide); have e5 := lv_neT s43_5 (a := 5) (by decide); have e6 := lv_neT s43_6 (a := 6) (by decide); have e7 := lv_neT s43_7 (a := 7) (by decide); have e8 := lv_neT s43_8 (a := 8) (by decide); have e9 := lv_neT s43_9 (a := 9) (by decide); have e10 := lv_neT s43_10 (a := 10) (by decide); have e11 := lv_neT s43_11 (a := 11) (by decide); have e12 := lv_neT s43_12 (a := 12) (by decide); have e13 := lv_neT s43_13 (a := 13) (by decide); omega) (by decide) ?_
  refine g_aload_n C dX0_doAct_391 rfl ?_
  refine g_iconst (v := 0) C dX0_doAct_392 (by decide) ?_
  refine g_puti C F0 i_hi i_k (by decide) 7 (by decide) rfl (hts (.fieldLink RX0 34 "FallBench$Machine" "ended" "I") (by decide +kernel)) rfl rfl rfl rfl dX0_doAct_393 ?_
  refine g_aload_n C dX0_doAct_396 rfl ?_
  refine g_callVf C hts V (i := i) (gX0_doAct_X0_endedAtAct) rfl hdX0_endedAtAct (by decide) (c_X0_endedAtAct hi) i_hi i_k (by decide) rfl rfl (Nat.le_of_ble_eq_true rfl) dX0_doAct_397 ?_
  refine g_if_ne (tgt := 413) C dX0_doAct_400 (by decide) (fun c400 => ?_) (fun c400 => ?_)
  · exact g_vret C Rr ⟨rfl, ⟨rfl, by simp only [m_act, m_sw, m_fin, if_neg s43_0, if_neg s43_1, if_neg s43_2, if_neg s43_3, if_neg s43_4, if_neg s43_5, if_neg s43_6, if_neg s43_7, if_neg s43_8, if_neg s43_9, if_neg s43_10, if_neg s43_11, if_neg s43_12, if_neg s43_13, if_neg c400]⟩⟩ dX0_doAct_413
  · refine g_aload_n C dX0_doAct_403 rfl ?_
    refine g_dup C dX0_doAct_404 rfl ?_
    refine g_geti C F0 i_hi i_k (by decide) 6 (by decide) rfl (hts (.fieldLink RX0 31 "FallBench$Machine" "steps" "I") (by decide +kernel)) rfl rfl dX0_doAct_405 ?_
    refine g_iconst (v := 1) C dX0_doAct_408 (by decide) ?_
    refine g_iadd C dX0_doAct_409 ?_
    refine g_puti C F0 i_hi i_k (by decide) 6 (by decide) rfl (hts (.fieldLink RX0 31 "FallBench$Machine" "steps" "I") (by decide +kernel)) rfl rfl rfl rfl dX0_doAct_410 ?_
    exact g_vret C Rr ⟨rfl, ⟨rfl, by simp only [m_act, m_sw, m_fin, if_neg s43_0, if_neg s43_1, if_neg s43_2, if_neg s43_3, if_neg s43_4, if_neg s43_5, if_neg s43_6, if_neg s43_7, if_neg s43_8, if_neg s43_9, if_neg s43_10, if_neg s43_11, if_neg s43_12, if_neg s43_13, if_pos c400]⟩⟩ dX0_doAct_413
