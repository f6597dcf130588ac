/-! THE START: what the law's premises give -/
abbrev Mt (q : Cond) : Prop := q ∈ lw_tbl
theorem mt_1 {q : Cond} (i : Nat) (h : tables_1_1[i]? = some q) : Mt q := List.mem_append_right _ (List.mem_append_left _ (List.mem_of_getElem? h))
theorem mt_2 {q : Cond} (i : Nat) (h : tables_1_2[i]? = some q) : Mt q := List.mem_append_right _ (List.mem_append_right _ (List.mem_append_left _ (List.mem_of_getElem? h)))
theorem mt_3 {q : Cond} (i : Nat) (h : tables_1_3[i]? = some q) : Mt q := List.mem_append_right _ (List.mem_append_right _ (List.mem_append_right _ (List.mem_append_left _ (List.mem_of_getElem? h))))
theorem mt_4 {q : Cond} (i : Nat) (h : tables_1_4[i]? = some q) : Mt q := List.mem_append_right _ (List.mem_append_right _ (List.mem_append_right _ (List.mem_append_right _ (List.mem_append_left _ (List.mem_of_getElem? h)))))
theorem mt_5 {q : Cond} (i : Nat) (h : tables_1_5[i]? = some q) : Mt q := List.mem_append_right _ (List.mem_append_right _ (List.mem_append_right _ (List.mem_append_right _ (List.mem_append_right _ (List.mem_of_getElem? h)))))
theorem tn_0 : Mt (.methodLinkNest RX1 11 yX5_init RX7) := mt_1 53 rfl
theorem tn_1 : Mt (.methodLinkNest RX1 44 yX2_init RX7) := mt_1 76 rfl
theorem tn_2 : Mt (.methodLinkNest RX1 67 yX7_withLetter RX7) := mt_1 160 rfl
theorem tn_3 : Mt (.methodLinkNest RX7 37 yX0_init RX7) := mt_1 204 rfl
theorem tn_4 : Mt (.methodLinkNest RX7 50 yX4_init RX7) := mt_2 29 rfl
theorem tn_5 : Mt (.methodLinkNest RX7 57 yX6_init RX7) := mt_2 64 rfl
theorem tn_6 : Mt (.methodLinkNest RX6 35 yX0_init RX7) := mt_2 71 rfl
theorem tn_7 : Mt (.methodLinkNest RX7 70 yX2_init RX7) := mt_2 98 rfl
theorem tn_8 : Mt (.methodLinkNest RX5 44 yX7_isLetter RX7) := mt_2 180 rfl
theorem tn_9 : Mt (.methodLinkNest RX5 51 yX7_isDigit RX7) := mt_2 183 rfl
theorem tn_10 : Mt (.methodLinkNest RX5 57 yX7_withLetter RX7) := mt_2 190 rfl
theorem tn_11 : Mt (.fieldLinkNest RX1 121 RX7 "REGISTERS_OF" "[I" RX7) := mt_2 232 rfl
theorem tn_12 : Mt (.laysStatic RX7 "REGISTERS_OF" "[I") := mt_2 233 rfl
theorem tn_13 : Mt (.initialized RX7) := mt_1 1 rfl
theorem tn_14 : Mt (.laysStatic "java/lang/String" "COMPACT_STRINGS" "Z") := mt_1 121 rfl
theorem tn_15 : Mt (.initialized "java/lang/String") := mt_1 7 rfl
theorem tn_16 : Mt (.laysStatic "jdk/internal/util/Preconditions" "SIOOBE_FORMATTER" "Ljava/util/function/BiFunction;") := mt_1 137 rfl
theorem tn_17 : Mt (.initialized "jdk/internal/util/Preconditions") := mt_1 9 rfl
theorem tn_18 : Mt (.arrayOver (.object "FallBench$Program")) := mt_1 44 rfl
theorem tn_19 : Mt (.arrayOver (.object "FallBench$Row")) := mt_1 201 rfl
theorem tn_20 : Mt (.stringRef RX1 55 actText) := mt_1 111 rfl
theorem ti_0 : Mt (.instantiable RX0 13) := mt_1 203 rfl
theorem ti_1 : Mt (.instantiable RX1 11) := mt_1 46 rfl
theorem ti_2 : Mt (.instantiable RX2 5) := mt_1 75 rfl
theorem ti_3 : Mt (.instantiable RX3 2) := mt_1 25 rfl
theorem ti_4 : Mt (.instantiable RX4 7) := mt_2 28 rfl
theorem ti_5 : Mt (.instantiable RX5 4) := mt_1 52 rfl
theorem ti_6 : Mt (.instantiable RX6 7) := mt_2 63 rfl
theorem ti_7 : Mt (.instantiable RX7 11) := mt_1 17 rfl
theorem ti_8 : Mt (.instantiable RX8 60) := mt_4 6 rfl
def lwF : List Cond := flatC (Jvm.Cond.and given_1 narrow_1)
theorem lf_ra : lwF[10]? = some (Cond.arrayOf (.static "FallBench" "REGISTERS_OF" "[I") .int) := rfl
theorem lf_rl : lwF[11]? = some (Cond.eq (.length (.static "FallBench" "REGISTERS_OF" "[I")) (.int 14)) := rfl
theorem lf_cs : lwF[4]? = some (Cond.eq (.static "java/lang/String" "COMPACT_STRINGS" "Z") (.int 1)) := rfl
theorem lf_sf : lwF[5]? = some (Cond.isRef (.static "jdk/internal/util/Preconditions" "SIOOBE_FORMATTER" "Ljava/util/function/BiFunction;")) := rfl
theorem lf_tx : lwF[26]? = some (Cond.exactly (.string "FallBench$Parser" 55) "java/lang/String") := rfl
theorem lf_tc : lwF[27]? = some (Cond.eq (.field (.string "FallBench$Parser" 55) "java/lang/String" "coder" "B") (.int 0)) := rfl
theorem lf_ta : lwF[28]? = some (Cond.arrayOf (.field (.string "FallBench$Parser" 55) "java/lang/String" "value" "[B") .byte) := rfl
theorem lf_tl : lwF[29]? = some (Cond.eq (.length (.field (.string "FallBench$Parser" 55) "java/lang/String" "value" "[B")) (.int 62)) := rfl
theorem lf_re : ∀ j, j < 14 → lwF[12 + j]? = some (Cond.eq (.elem (.static "FallBench" "REGISTERS_OF" "[I") (.int (Int32.ofNat j))) (.int (regs j))) := by decide +kernel
theorem lf_te : ∀ j, j < 62 → lwF[30 + j]? = some (Cond.eq (.elem (.field (.string "FallBench$Parser" 55) "java/lang/String" "value" "[B") (.int (Int32.ofNat j))) (.int (actL.getD j 0))) := by decide +kernel
theorem ln_small {args : Array Value} {s : State} {t : Term} {v : Value} (h : (Term.length t).eval args s none [] s = some v) : ∃ a cell, t.eval args s none [] s = some (.ref a) ∧ s.arrayAt? a = some cell ∧ cell.slots.size < 2147483648 := by
  simp only [Term.eval, Option.bind_eq_bind] at h
  cases ht : t.eval args s none [] s with
  | none => simp [ht] at h
  | some x =>
    cases x <;> simp [ht] at h
    case ref a =>
      obtain ⟨cell, hcell, h⟩ := Option.bind_eq_some_iff.mp h
      by_cases hn : cell.slots.size < 2147483648
      · exact ⟨a, cell, rfl, hcell, hn⟩
      · rw [if_neg hn] at h; cases h
theorem gNest_0 {args : Array Value} {s : State} (hts : ∀ q ∈ lw_tbl, q.before args s = true) : gNest s := ⟨va_tabs rfl rfl (hts _ tn_0), va_tabs rfl rfl (hts _ tn_1), va_tabs rfl rfl (hts _ tn_2), va_tabs rfl rfl (hts _ tn_3), va_tabs rfl rfl (hts _ tn_4), va_tabs rfl rfl (hts _ tn_5), va_tabs rfl rfl (hts _ tn_6), va_tabs rfl rfl (hts _ tn_7), va_tabs rfl rfl (hts _ tn_8), va_tabs rfl rfl (hts _ tn_9), va_tabs rfl rfl (hts _ tn_10), va_tabs rfl rfl (hts _ tn_11)⟩
theorem gStat_0 {args : Array Value} {s : State} {A : Nat → Prop} (hts : ∀ q ∈ lw_tbl, q.before args s = true) (hs : ∀ q ∈ lwF, q.before args s = true) (hA : ∀ a : Nat, a < s.heap.size → ¬ A a) : gStat A s s.heap := by
  have g1 := va_eqt (hs _ (List.mem_of_getElem? lf_rl))
  obtain ⟨t, ht, hT⟩ := va_Tof (N := 14) (f := fun j => .int (regs j)) (A := A) (by decide) (hs _ (List.mem_of_getElem? lf_ra)) g1 (fun j hj => va_eqt (hs _ (List.mem_of_getElem? (lf_re j hj)))) hA
  obtain ⟨a, cell', e1, e2, e3⟩ := ln_small g1
  obtain ⟨cell, c1, c2, c3, c4, c5, c6, c7⟩ := hT
  obtain ⟨d1, -⟩ := State.arrayAt?_spec e2
  have ea : t = a := by have := ht.symm.trans e1; cases this; rfl
  subst ea
  have ec : cell = cell' := Option.some.inj (c1.symm.trans d1)
  subst ec
  exact ⟨t, va_Zof (hts _ tn_12) (hts _ tn_13) ht hA, ⟨cell, c1, c2, c3, (nI_eq (a := cell.slots.size) (b := 14) e3 (by decide)).mp c5, c6⟩, c7⟩
theorem gText_0 {args : Array Value} {s : State} {A : Nat → Prop} (hts : ∀ q ∈ lw_tbl, q.before args s = true) (hs : ∀ q ∈ lwF, q.before args s = true) (hA : ∀ a : Nat, a < s.heap.size → ¬ A a) : gText A s s.heap := by
  obtain ⟨adK, adV, h1, h2⟩ := vk_Sof (N := 1) (tm := fun _ => (.string "FallBench$Parser" 55)) (len := [62]) (byt := [actL]) (A := A) (fun i hi => by obtain rfl : i = 0 := (by omega); decide) (fun i _ => hs _ (List.mem_of_getElem? lf_tx)) (fun i _ => hs _ (List.mem_of_getElem? lf_tc)) (fun i _ => hs _ (List.mem_of_getElem? lf_ta)) (fun i hi => by obtain rfl : i = 0 := (by omega); exact hs _ (List.mem_of_getElem? lf_tl)) (fun i hi j hj => by obtain rfl : i = 0 := (by omega); exact hs _ (List.mem_of_getElem? (lf_te j hj))) (fun i j hi hj hn => absurd (by omega) hn) hA
  exact ⟨⟨adK, adV, h1, vk_R.of (hts _ tn_20) (h2 0 (by decide))⟩, va_Zof (hts _ tn_14) (hts _ tn_15) (va_eqt (hs _ (List.mem_of_getElem? lf_cs))) hA, va_Zqof (hts _ tn_16) (hts _ tn_17) (hs _ (List.mem_of_getElem? lf_sf)) hA⟩
theorem gKn_of {s : State} (h : ∀ c, c < 9 → ∃ (cC : ClassId) (iS : Nat → Nat), u_Kn s (cR c) (cT c) (cN c) cC iS) : ∃ D : va_G, gKn D s := by
  have h0 : ∀ c : Nat, ∃ q : ClassId × (Nat → Nat), c < 9 → u_Kn s (cR c) (cT c) (cN c) q.1 q.2 := by
    intro c
    by_cases hc : c < 9
    · obtain ⟨x, y, z⟩ := h c hc
      exact ⟨(x, y), fun _ => z⟩
    · obtain ⟨x, y, -⟩ := h 0 (by decide)
      exact ⟨(x, y), fun z => absurd z hc⟩
  obtain ⟨f, hf⟩ := Classical.axiomOfChoice h0
  refine ⟨(fun c => (f c).1, fun c => (f c).2), fun c q hq => ?_⟩
  have hc : c < 9 := by
    have := (List.getElem?_eq_some_iff.mp hq).1
    exact this
  rw [c_cl hc] at hq
  cases hq
  exact hf c hc
theorem gKn_0 {args : Array Value} {s : State} (hts : ∀ q ∈ lw_tbl, q.before args s = true) : ∃ D : va_G, gKn D s := gKn_of (fun c hc => match c, hc with
  | 0, _ => u_known (ws := lw_tbl) hts (fun w h => (twl_X00 w h).1) (hts _ ti_0)
  | 1, _ => u_known (ws := lw_tbl) hts (fun w h => (twl_X10 w h).1) (hts _ ti_1)
  | 2, _ => u_known (ws := lw_tbl) hts (fun w h => (twl_X20 w h).1) (hts _ ti_2)
  | 3, _ => u_known (ws := lw_tbl) hts (fun w h => (twl_X30 w h).1) (hts _ ti_3)
  | 4, _ => u_known (ws := lw_tbl) hts (fun w h => (twl_X40 w h).1) (hts _ ti_4)
  | 5, _ => u_known (ws := lw_tbl) hts (fun w h => (twl_X50 w h).1) (hts _ ti_5)
  | 6, _ => u_known (ws := lw_tbl) hts (fun w h => (twl_X60 w h).1) (hts _ ti_6)
  | 7, _ => u_known (ws := lw_tbl) hts (fun w h => (twl_X70 w h).1) (hts _ ti_7)
  | 8, _ => u_known (ws := lw_tbl) hts (fun w h => (twl_X80 w h).1) (hts _ ti_8)
  | n + 9, h => absurd h (by omega))
