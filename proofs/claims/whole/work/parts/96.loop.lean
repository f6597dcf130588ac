/-! THE LAW'S LOOP -/
section LP
variable {X : gX} {l : Launch} {D : va_G} {nm : String} {a b : Nat} {w : gw} {M : Nat → Nat → Int32} {J : Nat → Nat → Int64} {R : Nat → Nat → Option Nat} {q L : Nat} {xs : Nat → Int32}
theorem g_slen {own : String} {cc : ByteArray} {pc : Nat} {lv : List (Option Value)} {rest : List Value} (C : Cx X own cc) (hq : va_X q L xs (x_s X) (x_s X).heap ∧ ¬ x_A X q) (d : decode cc pc = .ok (.arraylength, 1)) (kk : Gj X a b w M J R (pc + 1) lv (.int (Int32.ofNat L) :: rest)) : Gj X a b w M J R pc lv (.ref q :: rest) := by
  intro H locs ls h1 h2 h3 h4 h5 h6
  exact va_slen C.1 C.2.1 hq.1 (by obtain ⟨scr, g, -⟩ := hq.1; exact (Array.getElem?_eq_some_iff.mp g).1) hq.2 h5 d (kk H locs ls h1 h2 h3 h4 h5 h6)
theorem lw_6 {L k : Nat} (hk : k < 2 ^ 31) (h : ¬ (Int32.ofNat L - 6 < nI k)) : k + 6 ≤ L := by
  rcases Nat.lt_or_ge L 6 with g | g
  · exfalso
    apply h
    have z : ∀ L, L < 6 → (Int32.ofNat L - 6).toInt < 0 := by decide +kernel
    have z := z L g
    rw [Int32.lt_iff_toInt_lt, nI_toInt hk]
    omega
  · obtain ⟨m, rfl⟩ := Nat.exists_eq_add_of_le' g
    have e : Int32.ofNat (m + 6) - 6 = nI m := by
      rw [show Int32.ofNat (m + 6) = nI m + 6 from (nI_add m 6).symm]
      exact Int32.add_sub_cancel _ _
    rw [e] at h
    rcases Nat.lt_or_ge m k with z | z
    · exact absurd (nI_lt z hk) h
    · omega
theorem lw_hi {L k : Nat} (hL : L ≤ 3072) (hk : k + 6 ≤ L) : ∀ n : Int32, ¬ n < 0 → n < 6 → vp_in (nI k + n) L := fun n h0 h6 => by
  obtain ⟨j, hj, rfl⟩ := nI_of h0
  have h : j < 6 := (nI_ltI hj (by decide)).mp h6
  rw [nI_add]
  exact vp_in_nI (by omega) (by omega)
set_option maxHeartbeats 4000000 in
set_option maxRecDepth 100000 in
theorem lw_loop (C : Cx X RL cL_law) (hts : ∀ q ∈ lw_tbl, CB X q) (V : Cv X l D room_1 4 nm) (hab : a ≤ 600000 ∧ b ≤ 7302250) (hL : L ≤ 3072) (hq : va_X q L xs (x_s X) (x_s X).heap ∧ ¬ x_A X q) (hw : w.1 = 166) (E : ∀ i M J R, Gj X a b w M J R 908 (lwL w q i) []) : ∀ (n k : Nat) (M : Nat → Nat → Int32) (J : Nat → Nat → Int64) (R : Nat → Nat → Option Nat) (s : aSt), okSt s → repC M J R s → repM M J R s → k ≤ L → L - k < n → Gj X a b w M J R 18 (lwL w q (nI k)) [] := by
  intro n
  induction n with
  | zero => intro k M J R s _ _ _ _ h; exact absurd h (Nat.not_lt_zero _)
  | succ n ih =>
    intro k M J R s ho h1 h2 hkL hn
    refine g_iload_n C dL_law_18 rfl ?_
    refine g_aload_n C dL_law_19 rfl ?_
    refine g_slen C hq dL_law_20 ?_
    refine g_bipush (v := 6) C dL_law_21 (by decide) ?_
    refine g_isub C dL_law_23 ?_
    refine g_icmp_gt (tgt := 908) C dL_law_24 (by decide) (fun _ => E _ _ _ _) (fun h => ?_)
    have hk : k + 6 ≤ L := lw_6 (by omega) h
    have hi := lw_hi hL hk
    refine g_aload_n C dL_law_27 rfl ?_
    refine g_iload_n C dL_law_28 rfl ?_
    refine g_sld (v := xs (nI k).toNatClampNeg) C hq (vp_in_nI (by omega) (by omega)) rfl dL_law_29 ?_
    refine g_bipush (v := 31) C dL_law_30 (by decide) ?_
    refine g_iand C dL_law_32 ?_
    have K : lwK X a b w q (nI k) := fun M J R s ho h1 h2 => by
      refine g_iinc (v := nI (k + 6)) C V.2.1 dL_law_902 rfl (nI_add k 6) (by decide) rfl ?_
      refine g_goto (tgt := 18) C dL_law_905 (by decide) ?_
      exact ih (k + 6) M J R s ho h1 h2 (by omega) (by omega)
    generalize xs (nI k).toNatClampNeg &&& 31 = t
    by_cases t0 : t = 0
    · subst t0
      exact g_tableIn (tgt := 144) C dL_law_33 (by decide) (by decide) rfl (by decide) (lw_c0 C hts V hab hq hw hi ho h1 h2 K)
    by_cases t1 : t = 1
    · subst t1
      exact g_tableIn (tgt := 207) C dL_law_33 (by decide) (by decide) rfl (by decide) (lw_c1 C hts V hab hq hw hi ho h1 h2 K)
    by_cases t2 : t = 2
    · subst t2
      exact g_tableIn (tgt := 230) C dL_law_33 (by decide) (by decide) rfl (by decide) (lw_c2 C hts V hab hq hw hi ho h1 h2 K)
    by_cases t3 : t = 3
    · subst t3
      exact g_tableIn (tgt := 253) C dL_law_33 (by decide) (by decide) rfl (by decide) (lw_c3 C hts V hab hq hw hi ho h1 h2 K)
    by_cases t4 : t = 4
    · subst t4
      exact g_tableIn (tgt := 276) C dL_law_33 (by decide) (by decide) rfl (by decide) (lw_c4 C hts V hab hq hw hi ho h1 h2 K)
    by_cases t5 : t = 5
    · subst t5
      exact g_tableIn (tgt := 319) C dL_law_33 (by decide) (by decide) rfl (by decide) (lw_c5 C hts V hab hq hw hi ho h1 h2 K)
    by_cases t6 : t = 6
    · subst t6
      exact g_tableIn (tgt := 332) C dL_law_33 (by decide) (by decide) rfl (by decide) (lw_c6 C hts V hab hq hw hi ho h1 h2 K)
    by_cases t7 : t = 7
    · subst t7
      exact g_tableIn (tgt := 365) C dL_law_33 (by decide) (by decide) rfl (by decide) (lw_c7 C hts V hab hq hw hi ho h1 h2 K)
    by_cases t8 : t = 8
    · subst t8
      exact g_tableIn (tgt := 378) C dL_law_33 (by decide) (by decide) rfl (by decide) (lw_c8 C hts V hab hq hw hi ho h1 h2 K)
    by_cases t9 : t = 9
    · subst t9
      exact g_tableIn (tgt := 411) C dL_law_33 (by decide) (by decide) rfl (by decide) (lw_c9 C hts V hab hq hw hi ho h1 h2 K)
    by_cases t10 : t = 10
    · subst t10
      exact g_tableIn (tgt := 434) C dL_law_33 (by decide) (by decide) rfl (by decide) (lw_c10 C hts V hab hq hw hi ho h1 h2 K)
    by_cases t11 : t = 11
    · subst t11
      exact g_tableIn (tgt := 457) C dL_law_33 (by decide) (by decide) rfl (by decide) (lw_c11 C hts V hab hq hw hi ho h1 h2 K)
    by_cases t12 : t = 12
    · subst t12
      exact g_tableIn (tgt := 480) C dL_law_33 (by decide) (by decide) rfl (by decide) (lw_c12 C hts V hab hq hw hi ho h1 h2 K)
    by_cases t13 : t = 13
    · subst t13
      exact g_tableIn (tgt := 513) C dL_law_33 (by decide) (by decide) rfl (by decide) (lw_c13 C hts V hab hq hw hi ho h1 h2 K)
    by_cases t14 : t = 14
    · subst t14
      exact g_tableIn (tgt := 536) C dL_law_33 (by decide) (by decide) rfl (by decide) (lw_c14 C hts V hab hq hw hi ho h1 h2 K)
    by_cases t15 : t = 15
    · subst t15
      exact g_tableIn (tgt := 579) C dL_law_33 (by decide) (by decide) rfl (by decide) (lw_c15 C hts V hab hq hw hi ho h1 h2 K)
    by_cases t16 : t = 16
    · subst t16
      exact g_tableIn (tgt := 612) C dL_law_33 (by decide) (by decide) rfl (by decide) (lw_c16 C hts V hab hq hw hi ho h1 h2 K)
    by_cases t17 : t = 17
    · subst t17
      exact g_tableIn (tgt := 645) C dL_law_33 (by decide) (by decide) rfl (by decide) (lw_c17 C hts V hab hq hw hi ho h1 h2 K)
    by_cases t18 : t = 18
    · subst t18
      exact g_tableIn (tgt := 694) C dL_law_33 (by decide) (by decide) rfl (by decide) (lw_c18 C hts V hab hq hw hi ho h1 h2 K)
    by_cases t19 : t = 19
    · subst t19
      exact g_tableIn (tgt := 727) C dL_law_33 (by decide) (by decide) rfl (by decide) (lw_c19 C hts V hab hq hw hi ho h1 h2 K)
    by_cases t20 : t = 20
    · subst t20
      exact g_tableIn (tgt := 760) C dL_law_33 (by decide) (by decide) rfl (by decide) (lw_c20 C hts V hab hq hw hi ho h1 h2 K)
    by_cases t21 : t = 21
    · subst t21
      exact g_tableIn (tgt := 793) C dL_law_33 (by decide) (by decide) rfl (by decide) (lw_c21 C hts V hab hq hw hi ho h1 h2 K)
    by_cases t22 : t = 22
    · subst t22
      exact g_tableIn (tgt := 836) C dL_law_33 (by decide) (by decide) rfl (by decide) (lw_c22 C hts V hab hq hw hi ho h1 h2 K)
    by_cases t23 : t = 23
    · subst t23
      exact g_tableIn (tgt := 879) C dL_law_33 (by decide) (by decide) rfl (by decide) (lw_c23 C hts V hab hq hw hi ho h1 h2 K)
    have z0 : t.toInt ≠ 0 := fun e => t0 (Int32.toInt_inj.mp e)
    have z1 : t.toInt ≠ 1 := fun e => t1 (Int32.toInt_inj.mp e)
    have z2 : t.toInt ≠ 2 := fun e => t2 (Int32.toInt_inj.mp e)
    have z3 : t.toInt ≠ 3 := fun e => t3 (Int32.toInt_inj.mp e)
    have z4 : t.toInt ≠ 4 := fun e => t4 (Int32.toInt_inj.mp e)
    have z5 : t.toInt ≠ 5 := fun e => t5 (Int32.toInt_inj.mp e)
    have z6 : t.toInt ≠ 6 := fun e => t6 (Int32.toInt_inj.mp e)
    have z7 : t.toInt ≠ 7 := fun e => t7 (Int32.toInt_inj.mp e)
    have z8 : t.toInt ≠ 8 := fun e => t8 (Int32.toInt_inj.mp e)
    have z9 : t.toInt ≠ 9 := fun e => t9 (Int32.toInt_inj.mp e)
    have z10 : t.toInt ≠ 10 := fun e => t10 (Int32.toInt_inj.mp e)
    have z11 : t.toInt ≠ 11 := fun e => t11 (Int32.toInt_inj.mp e)
    have z12 : t.toInt ≠ 12 := fun e => t12 (Int32.toInt_inj.mp e)
    have z13 : t.toInt ≠ 13 := fun e => t13 (Int32.toInt_inj.mp e)
    have z14 : t.toInt ≠ 14 := fun e => t14 (Int32.toInt_inj.mp e)
    have z15 : t.toInt ≠ 15 := fun e => t15 (Int32.toInt_inj.mp e)
    have z16 : t.toInt ≠ 16 := fun e => t16 (Int32.toInt_inj.mp e)
    have z17 : t.toInt ≠ 17 := fun e => t17 (Int32.toInt_inj.mp e)
    have z18 : t.toInt ≠ 18 := fun e => t18 (Int32.toInt_inj.mp e)
    have z19 : t.toInt ≠ 19 := fun e => t19 (Int32.toInt_inj.mp e)
    have z20 : t.toInt ≠ 20 := fun e => t20 (Int32.toInt_inj.mp e)
    have z21 : t.toInt ≠ 21 := fun e => t21 (Int32.toInt_inj.mp e)
    have z22 : t.toInt ≠ 22 := fun e => t22 (Int32.toInt_inj.mp e)
    have z23 : t.toInt ≠ 23 := fun e => t23 (Int32.toInt_inj.mp e)
    exact g_tableOut (tgt := 902) C dL_law_33 (by omega) (by decide) (K M J R s ho h1 h2)
end LP
