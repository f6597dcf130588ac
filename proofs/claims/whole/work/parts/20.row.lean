/-! ROWS (class 3), Arrays.fill, Math.min, Math.max -/
theorem Cf.to {l : Launch} {y : MethodName} {ws : List Cond} {rm : Room} {D : va_G} {w : gw} {av : List Value} {M M2 M3 : Nat → Nat → Int32} {J J2 : Nat → Nat → Int64} {R R2 : Nat → Nat → Option Nat} {res res2 : Option Value} (h : Cf l y ws rm D w av M J R res M2 J2 R2) (e1 : res = res2) (e2 : M2 = M3) : Cf l y ws rm D w av M J R res2 M3 J2 R2 := by subst e1; subst e2; exact h
def isRow (w : gw) (R : Nat → Nat → Option Nat) (r : Nat) : Prop := r + 1 < w.1 ∧ kd r = 3 ∧ kd (r + 1) = 9 ∧ R r 0 = some (r + 1)
def isQuad (c n : Nat) (w : gw) (R : Nat → Nat → Option Nat) (i : Nat) : Prop := i + 4 < w.1 ∧ kd i = c ∧ kd (i + 1) = 9 ∧ kd (i + 2) = 9 ∧ kd (i + 3) = 9 ∧ kd (i + 4) = 9 ∧ ln (i + 1) = n ∧ ln (i + 2) = n ∧ ln (i + 3) = n ∧ ln (i + 4) = n ∧ R i 0 = some (i + 1) ∧ R i 1 = some (i + 2) ∧ R i 2 = some (i + 3) ∧ R i 3 = some (i + 4)
abbrev isMach (w : gw) (R : Nat → Nat → Option Nat) (i : Nat) : Prop := isQuad 0 40 w R i
abbrev isProg (w : gw) (R : Nat → Nat → Option Nat) (i : Nat) : Prop := isQuad 2 80 w R i
theorem inOf {x : Int32} {n : Nat} (hn : n < 2 ^ 31) (h0 : ¬ x < 0) (h1 : ¬ nI n ≤ x) : vp_in x n := by
  obtain ⟨j, hj, rfl⟩ := nI_of h0
  exact vp_in_nI (by rcases Nat.lt_or_ge j n with h | h; exact h; exact absurd (nI_le h hj) h1) hn
theorem ln_lt (i : Nat) : ln i < 2 ^ 31 := by
  rcases Nat.lt_or_ge i 166 with h | h
  · have : ∀ i, i < 166 → ln i < 2 ^ 31 := by decide +kernel
    exact this i h
  · have : ln i = 0 := by simp [ln, List.getD, List.getElem?_eq_none (show lnL.length ≤ i from h)]
    omega
def b_at (M : Nat → Nat → Int32) (r : Nat) (k : Int32) : Int32 := if k < 0 then -1 else if M r 1 ≤ k then -1 else if nI (ln (r + 1)) ≤ k then -1 else M (r + 1) k.toNatClampNeg
def b_add (M : Nat → Nat → Int32) (r : Nat) (b : Int32) : Nat → Nat → Int32 := if M r 1 < 0 then M else if nI (ln (r + 1)) ≤ M r 1 then M else up2 (up2 M (r + 1) (M r 1).toNatClampNeg b) r 1 (M r 1 + 1)
def b_set (M : Nat → Nat → Int32) (r : Nat) (k b : Int32) : Nat → Nat → Int32 := if k < 0 then M else if M r 1 ≤ k then M else if nI (ln (r + 1)) ≤ k then M else up2 M (r + 1) k.toNatClampNeg b
/-- row r as a copy of the first j bytes of row q -/
def b_cp (M : Nat → Nat → Int32) (r q j : Nat) : Nat → Nat → Int32 := fun a b => if a = r ∧ b = 1 then nI j else if a = r + 1 ∧ b < j then M (q + 1) b else M a b
/-- row r as a copy of what is left of the first j bytes of row q when byte o is left out -/
def b_cpo (M : Nat → Nat → Int32) (r q o j : Nat) : Nat → Nat → Int32 := fun a b => if a = r ∧ b = 1 then nI (if o < j then j - 1 else j) else if a = r + 1 ∧ b < (if o < j then j - 1 else j) then M (q + 1) (if b < o then b else b + 1) else M a b
def b_fill (M : Nat → Nat → Int32) (q j : Nat) (v : Int32) : Nat → Nat → Int32 := fun a b => if a = q ∧ b < j then v else M a b

theorem hdX3_byteAt : yX3_byteAt.cls = cR 3 ∧ yX3_byteAt.cls ≠ "java/lang/invoke/MethodHandle" ∧ yX3_byteAt.cls ≠ "java/lang/invoke/VarHandle" ∧ (parseMethodDescriptor yX3_byteAt.desc).map (fun d => d.parameters.length) = some 1 := by decide +kernel

theorem hdX3_add : yX3_add.cls = cR 3 ∧ yX3_add.cls ≠ "java/lang/invoke/MethodHandle" ∧ yX3_add.cls ≠ "java/lang/invoke/VarHandle" ∧ (parseMethodDescriptor yX3_add.desc).map (fun d => d.parameters.length) = some 1 := by decide +kernel

theorem hdX3_setByte : yX3_setByte.cls = cR 3 ∧ yX3_setByte.cls ≠ "java/lang/invoke/MethodHandle" ∧ yX3_setByte.cls ≠ "java/lang/invoke/VarHandle" ∧ (parseMethodDescriptor yX3_setByte.desc).map (fun d => d.parameters.length) = some 2 := by decide +kernel

theorem hdX3_copyFrom : yX3_copyFrom.cls = cR 3 ∧ yX3_copyFrom.cls ≠ "java/lang/invoke/MethodHandle" ∧ yX3_copyFrom.cls ≠ "java/lang/invoke/VarHandle" ∧ (parseMethodDescriptor yX3_copyFrom.desc).map (fun d => d.parameters.length) = some 1 := by decide +kernel

theorem hdX3_copyWithout : yX3_copyWithout.cls = cR 3 ∧ yX3_copyWithout.cls ≠ "java/lang/invoke/MethodHandle" ∧ yX3_copyWithout.cls ≠ "java/lang/invoke/VarHandle" ∧ (parseMethodDescriptor yX3_copyWithout.desc).map (fun d => d.parameters.length) = some 2 := by decide +kernel

theorem hdJ7_fill_53178 : yJ7_fill_53178.cls ≠ "java/lang/invoke/MethodHandle" ∧ yJ7_fill_53178.cls ≠ "java/lang/invoke/VarHandle" ∧ (parseMethodDescriptor yJ7_fill_53178.desc).map (fun d => d.parameters.length) = some 2 := by decide +kernel

-- byteAt(k)
set_option maxHeartbeats 4000000 in
set_option maxRecDepth 100000 in
theorem c_X3_byteAt {l : Launch} {D : va_G} {w : gw} {M : Nat → Nat → Int32} {J : Nat → Nat → Int64} {R : Nat → Nat → Option Nat} {r : Nat} {k : Int32} (hr : isRow w R r) : Cf l yX3_byteAt wsX3_byteAt ({ frames := 0, cells := 0, slots := 0, locals := 0 } : Room) D w [.ref (w.2.1 r), .int k] M J R (some (.int (b_at M r k))) M J R := by
  obtain ⟨r_hi1, r_k, r_k1, r_0⟩ := id hr
  have r_hi : r < w.1 := by omega
  refine Cg.of (own := RX3) (cc := cX3_byteAt) (maxL := 2) (ret := (some .int)) 0 (by decide) rfl rfl (Nat.le_of_ble_eq_true rfl) (fun X C hts V Rr => ?_)
  have F3 : FW X 3 := fun q h => hts q (List.mem_cons_of_mem _ (List.mem_append_right _ h))
  show Gj X 0 0 w M J R 0 [some (.ref (w.2.1 r)), some (.int k)] []
  refine g_iload_n C dX3_byteAt_0 rfl ?_
  refine g_if_lt (tgt := 30) C dX3_byteAt_1 (by decide) (fun c1 => ?_) (fun c1 => ?_)
  · refine g_iconst (v := (-1)) C dX3_byteAt_30 (by decide) ?_
    exact g_iret C Rr ⟨rfl, ⟨by simp only [b_at, if_pos c1], rfl⟩⟩ dX3_byteAt_31
  · refine g_iload_n C dX3_byteAt_4 rfl ?_
    refine g_aload_n C dX3_byteAt_5 rfl ?_
    refine g_geti C F3 r_hi r_k (by decide) 1 (by decide) rfl (hts (.fieldLink RX3 9 "FallBench$Row" "length" "I") (by decide +kernel)) rfl rfl dX3_byteAt_6 ?_
    refine g_icmp_ge (tgt := 30) C dX3_byteAt_9 (by decide) (fun c9 => ?_) (fun c9 => ?_)
    · refine g_iconst (v := (-1)) C dX3_byteAt_30 (by decide) ?_
      exact g_iret C Rr ⟨rfl, ⟨by simp only [b_at, if_neg c1, if_pos c9], rfl⟩⟩ dX3_byteAt_31
    · refine g_iload_n C dX3_byteAt_12 rfl ?_
      refine g_aload_n C dX3_byteAt_13 rfl ?_
      refine g_getr (j := (r + 1)) C F3 r_hi r_k (by decide) 0 (by decide) rfl (hts (.fieldLink RX3 21 "FallBench$Row" "bytes" "[I") (by decide +kernel)) rfl r_0 dX3_byteAt_14 ?_
      refine g_alen (v := nI (ln (r + 1))) C r_hi1 (by rw [r_k1]; decide) rfl dX3_byteAt_17 ?_
      refine g_icmp_ge (tgt := 30) C dX3_byteAt_18 (by decide) (fun c18 => ?_) (fun c18 => ?_)
      · refine g_iconst (v := (-1)) C dX3_byteAt_30 (by decide) ?_
        exact g_iret C Rr ⟨rfl, ⟨by simp only [b_at, if_neg c1, if_neg c9, if_pos c18], rfl⟩⟩ dX3_byteAt_31
      · refine g_aload_n C dX3_byteAt_21 rfl ?_
        refine g_getr (j := (r + 1)) C F3 r_hi r_k (by decide) 0 (by decide) rfl (hts (.fieldLink RX3 21 "FallBench$Row" "bytes" "[I") (by decide +kernel)) rfl r_0 dX3_byteAt_22 ?_
        refine g_iload_n C dX3_byteAt_25 rfl ?_
        refine g_iald C r_hi1 r_k1 (inOf (ln_lt _) c1 c18) rfl dX3_byteAt_26 ?_
        refine g_goto (tgt := 31) C dX3_byteAt_27 (by decide) ?_
        exact g_iret C Rr ⟨rfl, ⟨by simp only [b_at, if_neg c1, if_neg c9, if_neg c18], rfl⟩⟩ dX3_byteAt_31

-- add(b)
set_option maxHeartbeats 4000000 in
set_option maxRecDepth 100000 in
theorem c_X3_add {l : Launch} {D : va_G} {w : gw} {M : Nat → Nat → Int32} {J : Nat → Nat → Int64} {R : Nat → Nat → Option Nat} {r : Nat} {b : Int32} (hr : isRow w R r) : Cf l yX3_add wsX3_add ({ frames := 0, cells := 0, slots := 0, locals := 0 } : Room) D w [.ref (w.2.1 r), .int b] M J R none (b_add M r b) J R := by
  obtain ⟨r_hi1, r_k, r_k1, r_0⟩ := id hr
  have r_hi : r < w.1 := by omega
  refine Cg.of (own := RX3) (cc := cX3_add) (maxL := 2) (ret := none) 0 (by decide) rfl rfl (Nat.le_of_ble_eq_true rfl) (fun X C hts V Rr => ?_)
  have F3 : FW X 3 := fun q h => hts q (List.mem_cons_of_mem _ (List.mem_append_right _ h))
  show Gj X 0 0 w M J R 0 [some (.ref (w.2.1 r)), some (.int b)] []
  refine g_aload_n C dX3_add_0 rfl ?_
  refine g_geti C F3 r_hi r_k (by decide) 1 (by decide) rfl (hts (.fieldLink RX3 9 "FallBench$Row" "length" "I") (by decide +kernel)) rfl rfl dX3_add_1 ?_
  refine g_if_lt (tgt := 39) C dX3_add_4 (by decide) (fun c4 => ?_) (fun c4 => ?_)
  · exact g_vret C Rr ⟨rfl, ⟨rfl, by simp only [b_add, if_pos c4]⟩⟩ dX3_add_39
  · refine g_aload_n C dX3_add_7 rfl ?_
    refine g_geti C F3 r_hi r_k (by decide) 1 (by decide) rfl (hts (.fieldLink RX3 9 "FallBench$Row" "length" "I") (by decide +kernel)) rfl rfl dX3_add_8 ?_
    refine g_aload_n C dX3_add_11 rfl ?_
    refine g_getr (j := (r + 1)) C F3 r_hi r_k (by decide) 0 (by decide) rfl (hts (.fieldLink RX3 21 "FallBench$Row" "bytes" "[I") (by decide +kernel)) rfl r_0 dX3_add_12 ?_
    refine g_alen (v := nI (ln (r + 1))) C r_hi1 (by rw [r_k1]; decide) rfl dX3_add_15 ?_
    refine g_icmp_ge (tgt := 39) C dX3_add_16 (by decide) (fun c16 => ?_) (fun c16 => ?_)
    · exact g_vret C Rr ⟨rfl, ⟨rfl, by simp only [b_add, if_neg c4, if_pos c16]⟩⟩ dX3_add_39
    · refine g_aload_n C dX3_add_19 rfl ?_
      refine g_getr (j := (r + 1)) C F3 r_hi r_k (by decide) 0 (by decide) rfl (hts (.fieldLink RX3 21 "FallBench$Row" "bytes" "[I") (by decide +kernel)) rfl r_0 dX3_add_20 ?_
      refine g_aload_n C dX3_add_23 rfl ?_
      refine g_geti C F3 r_hi r_k (by decide) 1 (by decide) rfl (hts (.fieldLink RX3 9 "FallBench$Row" "length" "I") (by decide +kernel)) rfl rfl dX3_add_24 ?_
      refine g_iload_n C dX3_add_27 rfl ?_
      refine g_iast C r_hi1 r_k1 (inOf (ln_lt _) c4 c16) dX3_add_28 ?_
      refine g_aload_n C dX3_add_29 rfl ?_
      refine g_dup C dX3_add_30 rfl ?_
      refine g_geti (v := M r 1) C F3 r_hi r_k (by decide) 1 (by decide) rfl (hts (.fieldLink RX3 9 "FallBench$Row" "length" "I") (by decide +kernel)) rfl (up2_n1 M b (by omega)) dX3_add_31 ?_
      refine g_iconst (v := 1) C dX3_add_34 (by decide) ?_
      refine g_iadd C dX3_add_35 ?_
      refine g_puti C F3 r_hi r_k (by decide) 1 (by decide) rfl (hts (.fieldLink RX3 9 "FallBench$Row" "length" "I") (by decide +kernel)) rfl rfl rfl rfl dX3_add_36 ?_
      exact g_vret C Rr ⟨rfl, ⟨rfl, by simp only [b_add, if_neg c4, if_neg c16]⟩⟩ dX3_add_39

-- setByte(k, b)
set_option maxHeartbeats 4000000 in
set_option maxRecDepth 100000 in
theorem c_X3_setByte {l : Launch} {D : va_G} {w : gw} {M : Nat → Nat → Int32} {J : Nat → Nat → Int64} {R : Nat → Nat → Option Nat} {r : Nat} {k b : Int32} (hr : isRow w R r) : Cf l yX3_setByte wsX3_setByte ({ frames := 0, cells := 0, slots := 0, locals := 0 } : Room) D w [.ref (w.2.1 r), .int k, .int b] M J R none (b_set M r k b) J R := by
  obtain ⟨r_hi1, r_k, r_k1, r_0⟩ := id hr
  have r_hi : r < w.1 := by omega
  refine Cg.of (own := RX3) (cc := cX3_setByte) (maxL := 3) (ret := none) 0 (by decide) rfl rfl (Nat.le_of_ble_eq_true rfl) (fun X C hts V Rr => ?_)
  have F3 : FW X 3 := fun q h => hts q (List.mem_cons_of_mem _ (List.mem_append_right _ h))
  show Gj X 0 0 w M J R 0 [some (.ref (w.2.1 r)), some (.int k), some (.int b)] []
  refine g_iload_n C dX3_setByte_0 rfl ?_
  refine g_if_lt (tgt := 28) C dX3_setByte_1 (by decide) (fun c1 => ?_) (fun c1 => ?_)
  · exact g_vret C Rr ⟨rfl, ⟨rfl, by simp only [b_set, if_pos c1]⟩⟩ dX3_setByte_28
  · refine g_iload_n C dX3_setByte_4 rfl ?_
    refine g_aload_n C dX3_setByte_5 rfl ?_
    refine g_geti C F3 r_hi r_k (by decide) 1 (by decide) rfl (hts (.fieldLink RX3 9 "FallBench$Row" "length" "I") (by decide +kernel)) rfl rfl dX3_setByte_6 ?_
    refine g_icmp_ge (tgt := 28) C dX3_setByte_9 (by decide) (fun c9 => ?_) (fun c9 => ?_)
    · exact g_vret C Rr ⟨rfl, ⟨rfl, by simp only [b_set, if_neg c1, if_pos c9]⟩⟩ dX3_setByte_28
    · refine g_iload_n C dX3_setByte_12 rfl ?_
      refine g_aload_n C dX3_setByte_13 rfl ?_
      refine g_getr (j := (r + 1)) C F3 r_hi r_k (by decide) 0 (by decide) rfl (hts (.fieldLink RX3 21 "FallBench$Row" "bytes" "[I") (by decide +kernel)) rfl r_0 dX3_setByte_14 ?_
      refine g_alen (v := nI (ln (r + 1))) C r_hi1 (by rw [r_k1]; decide) rfl dX3_setByte_17 ?_
      refine g_icmp_ge (tgt := 28) C dX3_setByte_18 (by decide) (fun c18 => ?_) (fun c18 => ?_)
      · exact g_vret C Rr ⟨rfl, ⟨rfl, by simp only [b_set, if_neg c1, if_neg c9, if_pos c18]⟩⟩ dX3_setByte_28
      · refine g_aload_n C dX3_setByte_21 rfl ?_
        refine g_getr (j := (r + 1)) C F3 r_hi r_k (by decide) 0 (by decide) rfl (hts (.fieldLink RX3 21 "FallBench$Row" "bytes" "[I") (by decide +kernel)) rfl r_0 dX3_setByte_22 ?_
        refine g_iload_n C dX3_setByte_25 rfl ?_
        refine g_iload_n C dX3_setByte_26 rfl ?_
        refine g_iast C r_hi1 r_k1 (inOf (ln_lt _) c1 c18) dX3_setByte_27 ?_
        exact g_vret C Rr ⟨rfl, ⟨rfl, by simp only [b_set, if_neg c1, if_neg c9, if_neg c18]⟩⟩ dX3_setByte_28

theorem b_cp_len (M : Nat → Nat → Int32) {r q : Nat} (j : Nat) (h1 : q ≠ r) (h2 : q ≠ r + 1) : b_cp M r q j q 1 = M q 1 := by simp [b_cp, h1, h2]
theorem b_cp_at (M : Nat → Nat → Int32) {r q n j : Nat} (h1 : q ≠ r) (h2 : q ≠ r + 1) (h3 : q + 1 ≠ r) (hn : M q 1 = nI n) (hj : j < n) (hn2 : n ≤ ln (q + 1)) : b_at (b_cp M r q j) q (nI j) = M (q + 1) j := by
  have hl := ln_lt (q + 1)
  rw [b_at, if_neg (nI_pos (by omega)), b_cp_len M j h1 h2, hn, if_neg (nI_ge hj (by omega)), if_neg (nI_ge (by omega) hl), nI_clamp (by omega)]
  simp [b_cp, h1, h3]
theorem b_cp_add (M : Nat → Nat → Int32) {r q j : Nat} (hj : j < ln (r + 1)) : b_add (b_cp M r q j) r (M (q + 1) j) = b_cp M r q (j + 1) := by
  have hl := ln_lt (r + 1)
  have e : b_cp M r q j r 1 = nI j := by simp [b_cp]
  rw [b_add, e, if_neg (nI_pos (by omega)), if_neg (nI_ge hj hl), nI_clamp (by omega)]
  funext a b
  by_cases h1 : a = r ∧ b = 1
  · obtain ⟨rfl, rfl⟩ := h1
    simp [up2, b_cp, nI_succ]
  · by_cases h2 : a = r + 1
    · subst h2
      by_cases h3 : b = j
      · subst h3; simp [up2, b_cp]
      · have : (b < j + 1) = (b < j) := by simp; omega
        simp [up2, b_cp, h3, this]
    · simp [up2, b_cp, h1, h2]
theorem b_cp_0 (M : Nat → Nat → Int32) (r q : Nat) : up2 M r 1 0 = b_cp M r q 0 := by
  funext a b; simp [up2, b_cp, nI_0]

-- copyFrom(other)
set_option maxHeartbeats 4000000 in
set_option maxRecDepth 100000 in
theorem c_X3_copyFrom {l : Launch} {D : va_G} {w : gw} {M : Nat → Nat → Int32} {J : Nat → Nat → Int64} {R : Nat → Nat → Option Nat} {r q n : Nat} (hr : isRow w R r) (hq : isRow w R q) (hrq : q ≠ r) (hn : M q 1 = nI n) (hn1 : n ≤ ln (r + 1)) (hn2 : n ≤ ln (q + 1)) : Cf l yX3_copyFrom wsX3_copyFrom ({ frames := 1, cells := 0, slots := 0, locals := 21 } : Room) D w [.ref (w.2.1 r), .ref (w.2.1 q)] M J R none (b_cp M r q n) J R := by
  obtain ⟨r_hi1, r_k, r_k1, r_0⟩ := id hr
  have r_hi : r < w.1 := by omega
  obtain ⟨q_hi1, q_k, q_k1, q_0⟩ := id hq
  have q_hi : q < w.1 := by omega
  have n1 : q ≠ r + 1 := fun h => by rw [h, r_k1] at q_k; cases q_k
  have n2 : q + 1 ≠ r := fun h => by rw [h, r_k] at q_k1; cases q_k1
  have nn := ln_lt (r + 1)
  refine Cg.of (own := RX3) (cc := cX3_copyFrom) (maxL := 3) (ret := none) 1 (by decide) rfl rfl (Nat.le_of_ble_eq_true rfl) (fun X C hts V Rr => ?_)
  have F3 : FW X 3 := fun q h => hts q (List.mem_cons_of_mem _ (List.mem_append_right _ h))
  show Gj X 0 0 w M J R 0 [some (.ref (w.2.1 r)), some (.ref (w.2.1 q)), none] []
  have loop : ∀ d j, j + d = n → Gj X 0 0 w (b_cp M r q j) J R 7 [some (.ref (w.2.1 r)), some (.ref (w.2.1 q)), some (.int (nI j))] [] := by
    intro d
    induction d with
    | zero =>
      intro j hj
      refine g_iload_n C dX3_copyFrom_7 rfl ?_
      refine g_aload_n C dX3_copyFrom_8 rfl ?_
      refine g_geti (v := nI n) C F3 q_hi q_k (by decide) 1 (by decide) rfl (hts (.fieldLink RX3 9 "FallBench$Row" "length" "I") (by decide +kernel)) rfl (by rw [b_cp_len M j hrq n1, hn]) dX3_copyFrom_9 ?_
      refine g_icmp_ge (tgt := 30) C dX3_copyFrom_12 (by decide) (fun c12 => ?_) (fun c12 => absurd c12 (not_not_intro (nI_le (by omega) (by omega))))
      exact g_vret C Rr ⟨rfl, ⟨rfl, by rw [show j = n by omega]⟩⟩ dX3_copyFrom_30
    | succ d ih =>
      intro j hj
      refine g_iload_n C dX3_copyFrom_7 rfl ?_
      refine g_aload_n C dX3_copyFrom_8 rfl ?_
      refine g_geti (v := nI n) C F3 q_hi q_k (by decide) 1 (by decide) rfl (hts (.fieldLink RX3 9 "FallBench$Row" "length" "I") (by decide +kernel)) rfl (by rw [b_cp_len M j hrq n1, hn]) dX3_copyFrom_9 ?_
      refine g_icmp_ge (tgt := 30) C dX3_copyFrom_12 (by decide) (fun c12 => absurd c12 (nI_ge (by omega) (by omega))) (fun c12 => ?_)
      refine g_aload_n C dX3_copyFrom_15 rfl ?_
      refine g_aload_n C dX3_copyFrom_16 rfl ?_
      refine g_iload_n C dX3_copyFrom_17 rfl ?_
      refine g_callVf C hts V (i := q) (gX3_copyFrom_X3_byteAt) rfl hdX3_byteAt (by decide) (Cf.to (c_X3_byteAt (k := nI j) hq) (congrArg (fun z => some (Value.int z)) (b_cp_at M hrq n1 n2 hn (by omega) hn2)) rfl) q_hi q_k (by decide) rfl rfl (Nat.le_of_ble_eq_true rfl) dX3_copyFrom_18 ?_
      refine g_callVf C hts V (i := r) (gX3_copyFrom_X3_add) rfl hdX3_add (by decide) (Cf.to (c_X3_add (b := M (q + 1) j) hr) rfl (b_cp_add M (by omega))) r_hi r_k (by decide) rfl rfl (Nat.le_of_ble_eq_true rfl) dX3_copyFrom_21 ?_
      refine g_iinc (v := nI (j + 1)) C V.2.1 dX3_copyFrom_24 rfl (nI_succ j).symm (by decide) rfl ?_
      refine g_goto (tgt := 7) C dX3_copyFrom_27 (by decide) ?_
      exact ih (j + 1) (by omega)
  refine g_aload_n C dX3_copyFrom_0 rfl ?_
  refine g_iconst (v := 0) C dX3_copyFrom_1 (by decide) ?_
  refine g_puti C F3 r_hi r_k (by decide) 1 (by decide) rfl (hts (.fieldLink RX3 9 "FallBench$Row" "length" "I") (by decide +kernel)) rfl rfl rfl rfl dX3_copyFrom_2 ?_
  refine g_iconst (v := 0) C dX3_copyFrom_5 (by decide) ?_
  refine g_istore_n C V.2.1 dX3_copyFrom_6 (by decide) rfl ?_
  rw [b_cp_0 M r q]
  exact loop n 0 (by omega)

theorem b_cpo_len (M : Nat → Nat → Int32) {r q : Nat} (o j : Nat) (h1 : q ≠ r) (h2 : q ≠ r + 1) : b_cpo M r q o j q 1 = M q 1 := by simp [b_cpo, h1, h2]
theorem b_cpo_at (M : Nat → Nat → Int32) {r q o n j : Nat} (h1 : q ≠ r) (h2 : q ≠ r + 1) (h3 : q + 1 ≠ r) (hn : M q 1 = nI n) (hj : j < n) (hn2 : n ≤ ln (q + 1)) : b_at (b_cpo M r q o j) q (nI j) = M (q + 1) j := by
  have hl := ln_lt (q + 1)
  rw [b_at, if_neg (nI_pos (by omega)), b_cpo_len M o j h1 h2, hn, if_neg (nI_ge hj (by omega)), if_neg (nI_ge (by omega) hl), nI_clamp (by omega)]
  simp [b_cpo, h1, h3]
theorem b_cpo_out (M : Nat → Nat → Int32) {r q o : Nat} : b_cpo M r q o o = b_cpo M r q o (o + 1) := by
  funext a b; simp [b_cpo]
theorem b_cpo_add (M : Nat → Nat → Int32) {r q o j : Nat} (hj : j < ln (r + 1)) (ho : j ≠ o) : b_add (b_cpo M r q o j) r (M (q + 1) j) = b_cpo M r q o (j + 1) := by
  have hl := ln_lt (r + 1)
  have e : b_cpo M r q o j r 1 = nI (if o < j then j - 1 else j) := by simp [b_cpo]
  by_cases h : o < j
  · simp only [if_pos h] at e
    rw [b_add, e, if_neg (nI_pos (by omega)), if_neg (nI_ge (by omega) hl), nI_clamp (by omega)]
    have h9 : o < j + 1 := by omega
    funext a b
    by_cases h1 : a = r ∧ b = 1
    · obtain ⟨rfl, rfl⟩ := h1
      simp only [up2, b_cpo, if_pos h9, and_self, if_true]
      rw [← nI_succ]; congr 1; omega
    · by_cases h2 : a = r + 1
      · subst h2
        by_cases h3 : b = j - 1
        · subst h3
          have g1 : ¬ (j - 1 < o) := by omega
          have g2 : j - 1 < j + 1 - 1 := by omega
          have g3 : j - 1 + 1 = j := by omega
          simp [up2, b_cpo, h9, g1, g3]; omega
        · have : (b < j + 1 - 1) = (b < j - 1) := by simp; omega
          simp [up2, b_cpo, h3, h9, h]
          have : (b < j) ↔ (b < j - 1) := by omega
          simp [this]
      · simp [up2, b_cpo, h1, h2]
  · simp only [if_neg h] at e
    rw [b_add, e, if_neg (nI_pos (by omega)), if_neg (nI_ge hj hl), nI_clamp (by omega)]
    have h9 : ¬ o < j + 1 := by omega
    funext a b
    by_cases h1 : a = r ∧ b = 1
    · obtain ⟨rfl, rfl⟩ := h1
      simp [up2, b_cpo, h9, nI_succ]
    · by_cases h2 : a = r + 1
      · subst h2
        by_cases h3 : b = j
        · subst h3
          have g1 : b < o := by omega
          simp [up2, b_cpo, h9, g1]
        · have : (b < j + 1) ↔ (b < j) := by omega
          simp [up2, b_cpo, h3, h9, h, this]
      · simp [up2, b_cpo, h1, h2]
theorem b_cpo_0 (M : Nat → Nat → Int32) (r q o : Nat) : up2 M r 1 0 = b_cpo M r q o 0 := by
  funext a b; simp [up2, b_cpo, nI_0]

-- copyWithout(other, o)
set_option maxHeartbeats 4000000 in
set_option maxRecDepth 100000 in
theorem c_X3_copyWithout {l : Launch} {D : va_G} {w : gw} {M : Nat → Nat → Int32} {J : Nat → Nat → Int64} {R : Nat → Nat → Option Nat} {r q n o : Nat} (hr : isRow w R r) (hq : isRow w R q) (hrq : q ≠ r) (hn : M q 1 = nI n) (hn1 : n ≤ ln (r + 1)) (hn2 : n ≤ ln (q + 1)) (ho : o < 2 ^ 31) : Cf l yX3_copyWithout wsX3_copyWithout ({ frames := 1, cells := 0, slots := 0, locals := 21 } : Room) D w [.ref (w.2.1 r), .ref (w.2.1 q), .int (nI o)] M J R none (b_cpo M r q o n) J R := by
  obtain ⟨r_hi1, r_k, r_k1, r_0⟩ := id hr
  have r_hi : r < w.1 := by omega
  obtain ⟨q_hi1, q_k, q_k1, q_0⟩ := id hq
  have q_hi : q < w.1 := by omega
  have n1 : q ≠ r + 1 := fun h => by rw [h, r_k1] at q_k; cases q_k
  have n2 : q + 1 ≠ r := fun h => by rw [h, r_k] at q_k1; cases q_k1
  have nn := ln_lt (r + 1)
  refine Cg.of (own := RX3) (cc := cX3_copyWithout) (maxL := 4) (ret := none) 1 (by decide) rfl rfl (Nat.le_of_ble_eq_true rfl) (fun X C hts V Rr => ?_)
  have F3 : FW X 3 := fun q h => hts q (List.mem_cons_of_mem _ (List.mem_append_right _ h))
  show Gj X 0 0 w M J R 0 [some (.ref (w.2.1 r)), some (.ref (w.2.1 q)), some (.int (nI o)), none] []
  have loop : ∀ d j, j + d = n → Gj X 0 0 w (b_cpo M r q o j) J R 7 [some (.ref (w.2.1 r)), some (.ref (w.2.1 q)), some (.int (nI o)), some (.int (nI j))] [] := by
    intro d
    induction d with
    | zero =>
      intro j hj
      refine g_iload_n C dX3_copyWithout_7 rfl ?_
      refine g_aload_n C dX3_copyWithout_8 rfl ?_
      refine g_geti (v := nI n) C F3 q_hi q_k (by decide) 1 (by decide) rfl (hts (.fieldLink RX3 9 "FallBench$Row" "length" "I") (by decide +kernel)) rfl (by rw [b_cpo_len M o j hrq n1, hn]) dX3_copyWithout_9 ?_
      refine g_icmp_ge (tgt := 35) C dX3_copyWithout_12 (by decide) (fun c12 => ?_) (fun c12 => absurd c12 (not_not_intro (nI_le (by omega) (by omega))))
      exact g_vret C Rr ⟨rfl, ⟨rfl, by rw [show j = n by omega]⟩⟩ dX3_copyWithout_35
    | succ d ih =>
      intro j hj
      have nn2 := ln_lt (q + 1)
      refine g_iload_n C dX3_copyWithout_7 rfl ?_
      refine g_aload_n C dX3_copyWithout_8 rfl ?_
      refine g_geti (v := nI n) C F3 q_hi q_k (by decide) 1 (by decide) rfl (hts (.fieldLink RX3 9 "FallBench$Row" "length" "I") (by decide +kernel)) rfl (by rw [b_cpo_len M o j hrq n1, hn]) dX3_copyWithout_9 ?_
      refine g_icmp_ge (tgt := 35) C dX3_copyWithout_12 (by decide) (fun c12 => absurd c12 (nI_ge (by omega) (by omega))) (fun c12 => ?_)
      refine g_iload_n C dX3_copyWithout_15 rfl ?_
      refine g_iload_n C dX3_copyWithout_16 rfl ?_
      refine g_icmp_eq (tgt := 29) C dX3_copyWithout_17 (by decide) (fun c17 => ?_) (fun c17 => ?_)
      · have ej : j = o := (nI_eq (by omega) ho).mp c17
        subst ej
        rw [b_cpo_out M]
        refine g_iinc (v := nI (j + 1)) C V.2.1 dX3_copyWithout_29 rfl (nI_succ j).symm (by decide) rfl ?_
        refine g_goto (tgt := 7) C dX3_copyWithout_32 (by decide) ?_
        exact ih (j + 1) (by omega)
      · refine g_aload_n C dX3_copyWithout_20 rfl ?_
        refine g_aload_n C dX3_copyWithout_21 rfl ?_
        refine g_iload_n C dX3_copyWithout_22 rfl ?_
        refine g_callVf C hts V (i := q) (gX3_copyWithout_X3_byteAt) rfl hdX3_byteAt (by decide) (Cf.to (c_X3_byteAt (k := nI j) hq) (congrArg (fun z => some (Value.int z)) (b_cpo_at M hrq n1 n2 hn (by omega) hn2)) rfl) q_hi q_k (by decide) rfl rfl (Nat.le_of_ble_eq_true rfl) dX3_copyWithout_23 ?_
        refine g_callVf C hts V (i := r) (gX3_copyWithout_X3_add) rfl hdX3_add (by decide) (Cf.to (c_X3_add (b := M (q + 1) j) hr) rfl (b_cpo_add M (by omega) (fun z => c17 (by rw [z])))) r_hi r_k (by decide) rfl rfl (Nat.le_of_ble_eq_true rfl) dX3_copyWithout_26 ?_
        refine g_iinc (v := nI (j + 1)) C V.2.1 dX3_copyWithout_29 rfl (nI_succ j).symm (by decide) rfl ?_
        refine g_goto (tgt := 7) C dX3_copyWithout_32 (by decide) ?_
        exact ih (j + 1) (by omega)
  refine g_aload_n C dX3_copyWithout_0 rfl ?_
  refine g_iconst (v := 0) C dX3_copyWithout_1 (by decide) ?_
  refine g_puti C F3 r_hi r_k (by decide) 1 (by decide) rfl (hts (.fieldLink RX3 9 "FallBench$Row" "length" "I") (by decide +kernel)) rfl rfl rfl rfl dX3_copyWithout_2 ?_
  refine g_iconst (v := 0) C dX3_copyWithout_5 (by decide) ?_
  refine g_istore_n C V.2.1 dX3_copyWithout_6 (by decide) rfl ?_
  rw [b_cpo_0 M r q o]
  exact loop n 0 (by omega)

theorem b_fill_0 (M : Nat → Nat → Int32) (q : Nat) (v : Int32) : b_fill M q 0 v = M := by
  funext a b; simp [b_fill]
theorem b_fill_s (M : Nat → Nat → Int32) (q j : Nat) (v : Int32) : up2 (b_fill M q j v) q j v = b_fill M q (j + 1) v := by
  funext a b
  by_cases h : a = q
  · by_cases h3 : b = j
    · simp [up2, b_fill, h, h3]
    · have : (b < j + 1) ↔ (b < j) := by omega
      simp [up2, b_fill, h, h3, this]
  · simp [up2, b_fill, h]

-- Arrays.fill
set_option maxHeartbeats 4000000 in
set_option maxRecDepth 100000 in
theorem c_J7_fill_53178 {l : Launch} {D : va_G} {w : gw} {M : Nat → Nat → Int32} {J : Nat → Nat → Int64} {R : Nat → Nat → Option Nat} {q : Nat} {v : Int32} (hi : q < w.1) (hk : kd q = 9) : Cf l yJ7_fill_53178 wsJ7_fill_53178 ({ frames := 0, cells := 0, slots := 0, locals := 0 } : Room) D w [.ref (w.2.1 q), .int v] M J R none (b_fill M q (ln q) v) J R := by
  refine Cg.of (own := RJ7) (cc := cJ7_fill_53178) (maxL := 4) (ret := none) 2 (by decide) rfl rfl (Nat.le_of_ble_eq_true rfl) (fun X C hts V Rr => ?_)
  show Gj X 0 0 w M J R 0 [some (.ref (w.2.1 q)), some (.int v), none, none] []
  have nn := ln_lt q
  have loop : ∀ d j, j + d = ln q → Gj X 0 0 w (b_fill M q j v) J R 5 [some (.ref (w.2.1 q)), some (.int v), some (.int (nI j)), some (.int (nI (ln q)))] [] := by
    intro d
    induction d with
    | zero =>
      intro j hj
      refine g_iload_n C dJ7_fill_53178_5 rfl ?_
      refine g_iload_n C dJ7_fill_53178_6 rfl ?_
      refine g_icmp_ge (tgt := 20) C dJ7_fill_53178_7 (by decide) (fun c7 => ?_) (fun c7 => absurd c7 (not_not_intro (nI_le (by omega) (by omega))))
      exact g_vret C Rr ⟨rfl, ⟨rfl, by rw [show j = ln q by omega]⟩⟩ dJ7_fill_53178_20
    | succ d ih =>
      intro j hj
      refine g_iload_n C dJ7_fill_53178_5 rfl ?_
      refine g_iload_n C dJ7_fill_53178_6 rfl ?_
      refine g_icmp_ge (tgt := 20) C dJ7_fill_53178_7 (by decide) (fun c7 => absurd c7 (nI_ge (by omega) nn)) (fun c7 => ?_)
      refine g_aload_n C dJ7_fill_53178_10 rfl ?_
      refine g_iload_n C dJ7_fill_53178_11 rfl ?_
      refine g_iload_n C dJ7_fill_53178_12 rfl ?_
      refine g_iast C hi hk (vp_in_nI (by omega) nn) dJ7_fill_53178_13 ?_
      refine g_iinc (v := nI (j + 1)) C V.2.1 dJ7_fill_53178_14 rfl (nI_succ j).symm (by decide) rfl ?_
      refine g_goto (tgt := 5) C dJ7_fill_53178_17 (by decide) ?_
      rw [nI_clamp (by omega), b_fill_s]
      exact ih (j + 1) (by omega)
  refine g_iconst (v := 0) C dJ7_fill_53178_0 (by decide) ?_
  refine g_istore_n C V.2.1 dJ7_fill_53178_1 (by decide) rfl ?_
  refine g_aload_n C dJ7_fill_53178_2 rfl ?_
  refine g_alen (v := nI (ln q)) C hi (by rw [hk]; decide) rfl dJ7_fill_53178_3 ?_
  refine g_istore_n C V.2.1 dJ7_fill_53178_4 (by decide) rfl ?_
  rw [← b_fill_0 M q v]
  exact loop (ln q) 0 (by omega)
