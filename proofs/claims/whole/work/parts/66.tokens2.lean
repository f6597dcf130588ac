/-! TOKENS, second: readKind, readFrom -/
def okX (T : List Int32) : Prop := T.length ≤ 1000 ∧ ∀ k, k < T.length → ¬ T.getD k 0 < 0 ∧ T.getD k 0 < 256
theorem okX.nm1 {T : List Int32} (h : okX T) {a : Nat} (e : bt T a = -1) : T.length ≤ a := by
  rcases Nat.lt_or_ge a T.length with g | g
  · unfold bt at e; rw [if_pos g] at e; exact absurd (show T.getD a 0 < 0 by rw [e]; decide) (h.2 a g).1
  · exact g
theorem bt_lt {T : List Int32} {a : Nat} (e : ¬ bt T a = -1) : ¬ T.length ≤ a ∧ bt T a = T.getD a 0 := by
  by_cases g : a < T.length
  · exact ⟨by omega, by unfold bt; rw [if_pos g]⟩
  · exact absurd (by unfold bt; rw [if_neg g]) e
theorem bt_48 {T : List Int32} {a : Nat} (e : ¬ T.getD a 0 < 48) : bt T a = T.getD a 0 := by
  have g : a < T.length := lt_of_getD (fun z => e (by rw [z]; decide))
  unfold bt; rw [if_pos g]
def kindPost (T : List Int32) (a n : Nat) (M : Nat → Nat → Int32) (J : Nat → Nat → Int64) (R : Nat → Nat → Option Nat) (v : Option Value) (u : gm) : Prop := v = some (.int (tkA T a).1) ∧ u.2.2 = R ∧ u.1 = up2 M 5 3 (nI (tkA T a).2.1) ∧ (∀ x y, ¬ (x = 8 ∧ y = n) → u.2.1 x y = J x y) ∧ ((tkA T a).1 = 1 → u.2.1 8 n = enc5 (tkA T a).2.2.2) ∧ ((tkA T a).1 = 2 ∨ (tkA T a).1 = 3 → (u.2.1 8 n).toInt32 = (tkA T a).2.2.1)
theorem up2_nb {α : Type} {M : Nat → Nat → α} {i k a b : Nat} {v : α} (h : ¬ (a = i ∧ b = k)) : up2 M i k v a b = M a b := by simp only [up2]; exact if_neg h
theorem kp6 {T : List Int32} {a n : Nat} {M : Nat → Nat → Int32} {J : Nat → Nat → Int64} {R : Nat → Nat → Option Nat} (h : T.length ≤ a) (hn : M 5 3 = nI a) : kindPost T a n M J R (some (.int 6)) (M, J, R) := by
  unfold kindPost
  rw [tkA_6 h]
  exact ⟨rfl, rfl, (up2_id M 5 3 hn).symm, fun _ _ _ => rfl, fun z => absurd z (by dsimp only; decide), fun z => by rcases z with z | z <;> exact absurd z (by dsimp only; decide)⟩
theorem kp2 {T : List Int32} {a n : Nat} {M : Nat → Nat → Int32} {J : Nat → Nat → Int64} {R : Nat → Nat → Option Nat} (h : ¬ T.length ≤ a) (h2 : isRg T a) : kindPost T a n M J R (some (.int 2)) (up2 M 5 3 (nI a + 2), up2 J 8 n (bt T (a + 1) - 48).toInt64, R) := by
  unfold kindPost
  rw [tkA_2 h h2]
  exact ⟨rfl, rfl, by rw [nI_p2], fun x y z => up2_nb z, fun z => absurd z (by dsimp only; decide), fun _ => by dsimp only; rw [up2_eq, Int32.toInt32_toInt64, bt_48 h2.2.1]⟩
theorem kp1 {T : List Int32} {a n : Nat} {M : Nat → Nat → Int32} {J : Nat → Nat → Int64} {R : Nat → Nat → Option Nat} (h : ¬ T.length ≤ a) (h2 : ¬ isRg T a) (h3 : ¬ isLe (T.getD a 0) = 0) : kindPost T a n M J R (some (.int (if (tw qL T a).length ≤ 8 then 1 else 0))) (up2 M 5 3 (nI (a + (tw qL T a).length)), up2 J 8 n (enc5 (tw qL T a)), R) := by
  unfold kindPost
  rw [tkA_1 h h2 h3]
  refine ⟨rfl, rfl, rfl, fun x y z => up2_nb z, fun _ => up2_eq _ _ _ _, fun z => ?_⟩
  dsimp only at z
  by_cases g : (tw qL T a).length ≤ 8
  · rw [if_pos g] at z; rcases z with z | z <;> exact absurd z (by decide)
  · rw [if_neg g] at z; rcases z with z | z <;> exact absurd z (by decide)
theorem kp3 {T : List Int32} {a n : Nat} {M : Nat → Nat → Int32} {J : Nat → Nat → Int64} {R : Nat → Nat → Option Nat} (h : ¬ T.length ≤ a) (h2 : ¬ isRg T a) (h3 : isLe (T.getD a 0) = 0) (h4 : ¬ isDi (T.getD a 0) = 0 ∨ T.getD a 0 = 45) : kindPost T a n M J R (some (.int (if 1 ≤ (ndg T a).length ∧ (ndg T a).length ≤ 6 ∧ isLe (T.getD (nst T a + (ndg T a).length) 0) = 0 then 3 else 0))) (up2 M 5 3 (nI (nst T a + (ndg T a).length)), up2 J 8 n (if T.getD a 0 = 45 then - numl (ndg T a) else numl (ndg T a)), R) := by
  unfold kindPost
  rw [tkA_3 h h2 h3 h4]
  refine ⟨rfl, rfl, rfl, fun x y z => up2_nb z, fun z => ?_, fun _ => ?_⟩
  · dsimp only at z
    split at z <;> exact absurd z (by decide)
  · dsimp only
    rw [up2_eq]
    split
    · rw [Int64.toInt32_neg, numl_numi]
    · exact numl_numi _
theorem kp0 {T : List Int32} {a n : Nat} {M : Nat → Nat → Int32} {J : Nat → Nat → Int64} {R : Nat → Nat → Option Nat} (h : ¬ T.length ≤ a) (h2 : ¬ isRg T a) (h3 : isLe (T.getD a 0) = 0) (h4 : ¬ (¬ isDi (T.getD a 0) = 0 ∨ T.getD a 0 = 45)) {v : Int32} (hv : v = if T.getD a 0 = 10 then 5 else if T.getD a 0 = 58 then 4 else 0) : kindPost T a n M J R (some (.int v)) (up2 M 5 3 (nI a + 1), J, R) := by
  unfold kindPost
  rw [tkA_0 h h2 h3 h4]
  have k : ∀ c : Int32, (if T.getD a 0 = 10 then (5 : Int32) else if T.getD a 0 = 58 then 4 else 0) = c → c = 5 ∨ c = 4 ∨ c = 0 := fun c hc => by
    split at hc
    · exact Or.inl hc.symm
    · split at hc
      · exact Or.inr (Or.inl hc.symm)
      · exact Or.inr (Or.inr hc.symm)
  refine ⟨by rw [hv], rfl, by rw [nI_p1], fun _ _ _ => rfl, fun z => ?_, fun z => ?_⟩
  · rcases k 1 z with y | y | y <;> exact absurd y (by decide)
  · rcases z with z | z
    · rcases k 2 z with y | y | y <;> exact absurd y (by decide)
    · rcases k 3 z with y | y | y <;> exact absurd y (by decide)

set_option maxHeartbeats 4000000 in
set_option maxRecDepth 100000 in
theorem c_X5_readKind {l : Launch} {D : va_G} {w : gw} {M : Nat → Nat → Int32} {J : Nat → Nat → Int64} {R : Nat → Nat → Option Nat} (hw : w.1 = 166) (hR : LayC R) {T : List Int32} (hX : okX T) (hI : rowIs M 1 T) {a : Nat} (hn : M 5 3 = nI a) (ha : a ≤ T.length) {n : Nat} (hnn : n ≤ 1000) : Ct l yX5_readKind wsX5_readKind ({ frames := 2, cells := 0, slots := 0, locals := 48 } : Room) D w [.ref (w.2.1 5), .ref (w.2.1 1), .int (nI n)] (M, J, R) (kindPost T a n M J R) := by
  have r1 := row_1 hw hR
  have hT := hX.1
  have hb0 : b_at M 1 (nI a) = bt T a := bt_at hI hT (by omega) rfl
  have hb1 : b_at M 1 (nI a + 1) = bt T (a + 1) := bt_at hI hT (by omega) (nI_p1 a)
  refine Cg.of (own := RX5) (cc := cX5_readKind) (maxL := 4) (ret := (some .int)) 1 (by decide) rfl rfl (Nat.le_of_ble_eq_true rfl) (fun X C hts V Rr => ?_)
  have F5 : FW X 5 := fun q h => hts q (List.mem_cons_of_mem _ (List.mem_append_left _ (List.mem_append_right _ h)))
  have F3 : FW X 3 := fun q h => hts q (List.mem_cons_of_mem _ (List.mem_append_right _ h))
  show Gj X 0 0 w M J R 0 [some (.ref (w.2.1 5)), some (.ref (w.2.1 1)), some (.int (nI n)), none] []
  refine g_aload_n C dX5_readKind_0 rfl ?_
  refine g_aload_n C dX5_readKind_1 rfl ?_
  refine g_geti (v := nI a) C F5 (by rw [hw]; decide) rfl (by decide) 3 (by decide) rfl (hts (.fieldLink RX5 22 "FallBench$Tokens" "next" "I") (by decide +kernel)) rfl hn dX5_readKind_2 ?_
  refine g_callVf C hts V (i := 1) (gX5_readKind_X3_byteAt) rfl hdX3_byteAt (by decide) (Cf.to (c_X3_byteAt r1) (congrArg (fun z => some (Value.int z)) hb0) rfl) (by rw [hw]; decide) rfl (by decide) rfl rfl (Nat.le_of_ble_eq_true rfl) dX5_readKind_5 ?_
  refine g_istore_n C V.2.1 dX5_readKind_8 (by decide) rfl ?_
  refine g_iload_n C dX5_readKind_9 rfl ?_
  refine g_iconst (v := (-1)) C dX5_readKind_10 (by decide) ?_
  refine g_icmp_ne (tgt := 17) C dX5_readKind_11 (by decide) (fun c11 => ?_) (fun c11 => ?_)
  · have hlt := bt_lt c11
    refine g_aload_n C dX5_readKind_17 rfl ?_
    refine g_aload_n C dX5_readKind_18 rfl ?_
    refine g_callVf C hts V (i := 5) (gX5_readKind_X5_isRegister) rfl hdX5_isRegister (by decide) (c_X5_isRegister hw hR hT hI hn ha) (by rw [hw]; decide) rfl (by decide) rfl rfl (Nat.le_of_ble_eq_true rfl) dX5_readKind_19 ?_
    refine g_if_eq (tgt := 57) C dX5_readKind_22 (by decide) (fun c22 => ?_) (fun c22 => ?_)
    · have hrg : ¬ isRg T a := fun z => absurd (c22.symm.trans (if_pos z)) (by decide)
      refine g_iload_n C dX5_readKind_57 rfl ?_
      refine g_callNf C hts V (gX5_readKind_X7_isLetter_n44) rfl (gN_X5_44 C.2.2.2.2.2.1) (hts (.static yX7_isLetter) (by decide +kernel)) (hts (.initialized RX7) (by decide +kernel)) hdX7_isLetter (by decide) c_X7_isLetter rfl rfl (Nat.le_of_ble_eq_true rfl) dX5_readKind_58 ?_
      refine g_if_eq (tgt := 71) C dX5_readKind_61 (by decide) (fun c61 => ?_) (fun c61 => ?_)
      · have hle : isLe (T.getD a 0) = 0 := by rw [← hlt.2]; exact c61
        refine g_iload_n C dX5_readKind_71 rfl ?_
        refine g_callNf C hts V (gX5_readKind_X7_isDigit_n51) rfl (gN_X5_51 C.2.2.2.2.2.1) (hts (.static yX7_isDigit) (by decide +kernel)) (hts (.initialized RX7) (by decide +kernel)) hdX7_isDigit (by decide) c_X7_isDigit rfl rfl (Nat.le_of_ble_eq_true rfl) dX5_readKind_72 ?_
        refine g_if_ne (tgt := 84) C dX5_readKind_75 (by decide) (fun c75 => ?_) (fun c75 => ?_)
        · refine g_aload_n C dX5_readKind_84 rfl ?_
          refine g_aload_n C dX5_readKind_85 rfl ?_
          refine g_iload_n C dX5_readKind_86 rfl ?_
          refine g_callVf C hts V (i := 5) (gX5_readKind_X5_readNumber) rfl hdX5_readNumber (by decide) (c_X5_readNumber hw hR hT hI hn ha hnn) (by rw [hw]; decide) rfl (by decide) rfl rfl (Nat.le_of_ble_eq_true rfl) dX5_readKind_87 ?_
          exact g_iret C Rr ⟨rfl, kp3 hlt.1 hrg hle (Or.inl (by rw [← hlt.2]; exact c75))⟩ dX5_readKind_90
        · refine g_iload_n C dX5_readKind_78 rfl ?_
          refine g_bipush (v := 45) C dX5_readKind_79 (by decide) ?_
          refine g_icmp_ne (tgt := 91) C dX5_readKind_81 (by decide) (fun c81 => ?_) (fun c81 => ?_)
          · have hno : ¬ (¬ isDi (T.getD a 0) = 0 ∨ T.getD a 0 = 45) := fun z => z.elim (fun y => y (by rw [← hlt.2]; exact c75)) (fun y => c81 (by rw [hlt.2]; exact y))
            refine g_aload_n C dX5_readKind_91 rfl ?_
            refine g_dup C dX5_readKind_92 rfl ?_
            refine g_geti (v := nI a) C F5 (by rw [hw]; decide) rfl (by decide) 3 (by decide) rfl (hts (.fieldLink RX5 22 "FallBench$Tokens" "next" "I") (by decide +kernel)) rfl hn dX5_readKind_93 ?_
            refine g_iconst (v := 1) C dX5_readKind_96 (by decide) ?_
            refine g_iadd C dX5_readKind_97 ?_
            refine g_puti C F5 (by rw [hw]; decide) rfl (by decide) 3 (by decide) rfl (hts (.fieldLink RX5 22 "FallBench$Tokens" "next" "I") (by decide +kernel)) rfl rfl rfl rfl dX5_readKind_98 ?_
            refine g_iload_n C dX5_readKind_101 rfl ?_
            refine g_bipush (v := 10) C dX5_readKind_102 (by decide) ?_
            refine g_icmp_ne (tgt := 111) C dX5_readKind_104 (by decide) (fun c104 => ?_) (fun c104 => ?_)
            · refine g_iload_n C dX5_readKind_111 rfl ?_
              refine g_bipush (v := 58) C dX5_readKind_112 (by decide) ?_
              refine g_icmp_ne (tgt := 121) C dX5_readKind_114 (by decide) (fun c114 => ?_) (fun c114 => ?_)
              · refine g_iconst (v := 0) C dX5_readKind_121 (by decide) ?_
                exact g_iret C Rr ⟨rfl, kp0 hlt.1 hrg hle hno (by rw [if_neg (fun z => c104 (hlt.2.trans z)), if_neg (fun z => c114 (hlt.2.trans z))])⟩ dX5_readKind_122
              · refine g_iconst (v := 4) C dX5_readKind_117 (by decide) ?_
                refine g_goto (tgt := 122) C dX5_readKind_118 (by decide) ?_
                exact g_iret C Rr ⟨rfl, kp0 hlt.1 hrg hle hno (by rw [if_neg (fun z => c104 (hlt.2.trans z)), if_pos (hlt.2.symm.trans c114)])⟩ dX5_readKind_122
            · refine g_iconst (v := 5) C dX5_readKind_107 (by decide) ?_
              refine g_goto (tgt := 122) C dX5_readKind_108 (by decide) ?_
              exact g_iret C Rr ⟨rfl, kp0 hlt.1 hrg hle hno (by rw [if_pos (hlt.2.symm.trans c104)])⟩ dX5_readKind_122
          · refine g_aload_n C dX5_readKind_84 rfl ?_
            refine g_aload_n C dX5_readKind_85 rfl ?_
            refine g_iload_n C dX5_readKind_86 rfl ?_
            refine g_callVf C hts V (i := 5) (gX5_readKind_X5_readNumber) rfl hdX5_readNumber (by decide) (c_X5_readNumber hw hR hT hI hn ha hnn) (by rw [hw]; decide) rfl (by decide) rfl rfl (Nat.le_of_ble_eq_true rfl) dX5_readKind_87 ?_
            exact g_iret C Rr ⟨rfl, kp3 hlt.1 hrg hle (Or.inr (by rw [← hlt.2]; exact c81))⟩ dX5_readKind_90
      · have hle : ¬ isLe (T.getD a 0) = 0 := by rw [← hlt.2]; exact c61
        refine g_aload_n C dX5_readKind_64 rfl ?_
        refine g_aload_n C dX5_readKind_65 rfl ?_
        refine g_iload_n C dX5_readKind_66 rfl ?_
        refine g_callVf C hts V (i := 5) (gX5_readKind_X5_readWord) rfl hdX5_readWord (by decide) (c_X5_readWord hw hR hT hI hn ha hnn) (by rw [hw]; decide) rfl (by decide) rfl rfl (Nat.le_of_ble_eq_true rfl) dX5_readKind_67 ?_
        exact g_iret C Rr ⟨rfl, kp1 hlt.1 hrg hle⟩ dX5_readKind_70
    · have hrg : isRg T a := Classical.byContradiction (fun z => c22 (if_neg z))
      refine g_aload_n C dX5_readKind_25 rfl ?_
      refine g_getr (j := 8) C F5 (by rw [hw]; decide) rfl (by decide) 2 (by decide) rfl (hts (.fieldLink RX5 18 "FallBench$Tokens" "values" "[J") (by decide +kernel)) rfl (hR (5, 2, 8) (by decide)) dX5_readKind_26 ?_
      refine g_iload_n C dX5_readKind_29 rfl ?_
      refine g_aload_n C dX5_readKind_30 rfl ?_
      refine g_aload_n C dX5_readKind_31 rfl ?_
      refine g_geti (v := nI a) C F5 (by rw [hw]; decide) rfl (by decide) 3 (by decide) rfl (hts (.fieldLink RX5 22 "FallBench$Tokens" "next" "I") (by decide +kernel)) rfl hn dX5_readKind_32 ?_
      refine g_iconst (v := 1) C dX5_readKind_35 (by decide) ?_
      refine g_iadd C dX5_readKind_36 ?_
      refine g_callVf C hts V (i := 1) (gX5_readKind_X3_byteAt) rfl hdX3_byteAt (by decide) (Cf.to (c_X3_byteAt r1) (congrArg (fun z => some (Value.int z)) hb1) rfl) (by rw [hw]; decide) rfl (by decide) rfl rfl (Nat.le_of_ble_eq_true rfl) dX5_readKind_37 ?_
      refine g_bipush (v := 48) C dX5_readKind_40 (by decide) ?_
      refine g_isub C dX5_readKind_42 ?_
      refine g_i2l C dX5_readKind_43 ?_
      refine g_last C (by rw [hw]; decide) rfl (vp_in_nI (N := 1001) (by omega) (by decide)) dX5_readKind_44 ?_
      refine g_aload_n C dX5_readKind_45 rfl ?_
      refine g_dup C dX5_readKind_46 rfl ?_
      refine g_geti (v := nI a) C F5 (by rw [hw]; decide) rfl (by decide) 3 (by decide) rfl (hts (.fieldLink RX5 22 "FallBench$Tokens" "next" "I") (by decide +kernel)) rfl hn dX5_readKind_47 ?_
      refine g_iconst (v := 2) C dX5_readKind_50 (by decide) ?_
      refine g_iadd C dX5_readKind_51 ?_
      refine g_puti C F5 (by rw [hw]; decide) rfl (by decide) 3 (by decide) rfl (hts (.fieldLink RX5 22 "FallBench$Tokens" "next" "I") (by decide +kernel)) rfl rfl rfl rfl dX5_readKind_52 ?_
      refine g_iconst (v := 2) C dX5_readKind_55 (by decide) ?_
      exact g_iret C Rr ⟨rfl, (by rw [nI_clamp (by omega)]; exact kp2 hlt.1 hrg)⟩ dX5_readKind_56
  · refine g_bipush (v := 6) C dX5_readKind_14 (by decide) ?_
    exact g_iret C Rr ⟨rfl, kp6 (hX.nm1 c11) hn⟩ dX5_readKind_16

/-- token n as the row of tokens has it -/
def ent (T : List Int32) (M : Nat → Nat → Int32) (J : Nat → Nat → Int64) (n : Nat) : Prop := M 6 n = tK T n ∧ M 7 n = tP T n ∧ (tK T n = 1 → J 8 n = enc5 (tW T n)) ∧ (tK T n = 2 ∨ tK T n = 3 → (J 8 n).toInt32 = tV T n)
def tabC (T : List Int32) (M : Nat → Nat → Int32) (J : Nat → Nat → Int64) : Prop := ∀ n, live T n → ent T M J n
def froF (M M' : Nat → Nat → Int32) : Prop := ∀ x y, ¬ (x = 5 ∧ y = 3) → ¬ x = 6 → ¬ x = 7 → M' x y = M x y
def froJ (J J' : Nat → Nat → Int64) : Prop := ∀ x y, ¬ x = 8 → J' x y = J x y
theorem ent.o {T : List Int32} {M M' : Nat → Nat → Int32} {J J' : Nat → Nat → Int64} {n : Nat} (h : ent T M J n) (e6 : M' 6 n = M 6 n) (e7 : M' 7 n = M 7 n) (e8 : J' 8 n = J 8 n) : ent T M' J' n := ⟨e6.trans h.1, e7.trans h.2.1, fun z => e8.trans (h.2.2.1 z), fun z => by rw [e8]; exact h.2.2.2 z⟩

set_option maxHeartbeats 4000000 in
set_option maxRecDepth 100000 in
theorem c_X5_readFrom {l : Launch} {D : va_G} {w : gw} {M : Nat → Nat → Int32} {J : Nat → Nat → Int64} {R : Nat → Nat → Option Nat} (hw : w.1 = 166) (hR : LayC R) {T : List Int32} (hX : okX T) (hI : rowIs M 1 T) : Ct l yX5_readFrom wsX5_readFrom ({ frames := 3, cells := 0, slots := 0, locals := 71 } : Room) D w [.ref (w.2.1 5), .ref (w.2.1 1)] (M, J, R) (fun v u => v = none ∧ u.2.2 = R ∧ tabC T u.1 u.2.1 ∧ froF M u.1 ∧ froJ J u.2.1) := by
  refine Cg.of (own := RX5) (cc := cX5_readFrom) (maxL := 4) (ret := none) 2 (by decide) rfl rfl (Nat.le_of_ble_eq_true rfl) (fun X C hts V Rr => ?_)
  have F5 : FW X 5 := fun q h => hts q (List.mem_cons_of_mem _ (List.mem_append_left _ (List.mem_append_right _ h)))
  have F3 : FW X 3 := fun q h => hts q (List.mem_cons_of_mem _ (List.mem_append_right _ h))
  show Gj X 0 0 w M J R 0 [some (.ref (w.2.1 5)), some (.ref (w.2.1 1)), none, none] []
  have fin : ∀ n M0 J0, froF M M0 → froJ J J0 → tabC T M0 J0 → Gj X 0 0 w M0 J0 R 9 [some (.ref (w.2.1 5)), some (.ref (w.2.1 1)), some (.int 0), some (.int (nI n))] [] := by
    intro n M0 J0 hF hJ hTb
    refine g_iload_n C dX5_readFrom_9 rfl ?_
    refine g_sipush (v := 1000) C dX5_readFrom_10 (by decide) ?_
    refine g_icmp_gt (tgt := 79) C dX5_readFrom_13 (by decide) (fun c13 => ?_) (fun c13 => ?_)
    · exact g_vret C Rr ⟨rfl, ⟨rfl, rfl, hTb, hF, hJ⟩⟩ dX5_readFrom_79
    · refine g_iload_n C dX5_readFrom_16 rfl ?_
      refine g_if_eq (tgt := 79) C dX5_readFrom_17 (by decide) (fun c17 => ?_) (fun c17 => absurd c17 (not_not_intro rfl))
      exact g_vret C Rr ⟨rfl, ⟨rfl, rfl, hTb, hF, hJ⟩⟩ dX5_readFrom_79
  have loop : ∀ dd n M0 J0, n + dd = 1001 → live T n → M0 5 3 = nI (tpos T n) → froF M M0 → froJ J J0 → (∀ m, m < n → ent T M0 J0 m) → Gj X 0 0 w M0 J0 R 9 [some (.ref (w.2.1 5)), some (.ref (w.2.1 1)), some (.int 1), some (.int (nI n))] [] := by
    intro dd
    induction dd with
    | zero => intro n M0 J0 h1 h2; exact absurd (live_le hX.1 h2) (by omega)
    | succ dd ih =>
      intro n M0 J0 h1 h2 h3 hF hJ he
      have hn1 := live_le hX.1 h2
      have hI0 : rowIs M0 1 T := hI.o (fun x y q1 q2 => hF x y (by omega) (by omega) (by omega))
      have hpl := tplc_le T n
      have hI2 : rowIs (up2 (up2 M0 5 3 (nI (tplc T n))) 7 n (nI (tplc T n))) 1 T := hI0.o (fun x y q1 q2 => by rw [up2_n1 _ _ (by omega), up2_n1 _ _ (by omega)])
      refine g_iload_n C dX5_readFrom_9 rfl ?_
      refine g_sipush (v := 1000) C dX5_readFrom_10 (by decide) ?_
      refine g_icmp_gt (tgt := 79) C dX5_readFrom_13 (by decide) (fun c13 => absurd c13 (fun z => absurd ((nI_ltI (a := 1000) (b := n) (by decide) (by omega)).mp z) (by omega))) (fun c13 => ?_)
      refine g_iload_n C dX5_readFrom_16 rfl ?_
      refine g_if_eq (tgt := 79) C dX5_readFrom_17 (by decide) (fun c17 => absurd c17 (by decide)) (fun c17 => ?_)
      refine g_aload_n C dX5_readFrom_20 rfl ?_
      refine g_aload_n C dX5_readFrom_21 rfl ?_
      refine g_callVf C hts V (i := 5) (gX5_readFrom_X5_skipBlanks) rfl hdX5_skipBlanks (by decide) (c_X5_skipBlanks hw hR hX.1 hI0 h3 (tpos_le T n)) (by rw [hw]; decide) rfl (by decide) rfl rfl (Nat.le_of_ble_eq_true rfl) dX5_readFrom_22 ?_
      refine g_aload_n C dX5_readFrom_25 rfl ?_
      refine g_getr (j := 7) C F5 (by rw [hw]; decide) rfl (by decide) 1 (by decide) rfl (hts (.fieldLink RX5 15 "FallBench$Tokens" "places" "[I") (by decide +kernel)) rfl (hR (5, 1, 7) (by decide)) dX5_readFrom_26 ?_
      refine g_iload_n C dX5_readFrom_29 rfl ?_
      refine g_aload_n C dX5_readFrom_30 rfl ?_
      refine g_geti (v := nI (tplc T n)) C F5 (by rw [hw]; decide) rfl (by decide) 3 (by decide) rfl (hts (.fieldLink RX5 22 "FallBench$Tokens" "next" "I") (by decide +kernel)) rfl (up2_eq _ _ _ _) dX5_readFrom_31 ?_
      refine g_iast C (by rw [hw]; decide) rfl (vp_in_nI (N := 1001) (by omega) (by decide)) dX5_readFrom_34 ?_
      rw [nI_clamp (show n < 2 ^ 31 by omega)]
      refine g_aload_n C dX5_readFrom_35 rfl ?_
      refine g_getr (j := 6) C F5 (by rw [hw]; decide) rfl (by decide) 0 (by decide) rfl (hts (.fieldLink RX5 9 "FallBench$Tokens" "kinds" "[I") (by decide +kernel)) rfl (hR (5, 0, 6) (by decide)) dX5_readFrom_36 ?_
      refine g_iload_n C dX5_readFrom_39 rfl ?_
      refine g_aload_n C dX5_readFrom_40 rfl ?_
      refine g_aload_n C dX5_readFrom_41 rfl ?_
      refine g_iload_n C dX5_readFrom_42 rfl ?_
      refine g_callVt C hts V (i := 5) (gX5_readFrom_X5_readKind) rfl hdX5_readKind (by decide) (c_X5_readKind (a := tplc T n) hw hR hX hI2 (by rw [up2_n1 _ _ (by decide), up2_eq]) hpl hn1) (by rw [hw]; decide) rfl (by decide) rfl rfl (Nat.le_of_ble_eq_true rfl) dX5_readFrom_43 (fun v M1 J1 R1 h => ?_)
      obtain ⟨h0, hR1, hM1, hJ1, hw1, hnu⟩ := h
      subst h0
      have hR1 := Eq.symm hR1
      subst hR1
      dsimp only at hM1 hJ1 hw1 hnu
      subst hM1
      refine g_iast C (by rw [hw]; decide) rfl (vp_in_nI (N := 1001) (by omega) (by decide)) dX5_readFrom_46 ?_
      rw [nI_clamp (show n < 2 ^ 31 by omega)]
      have hF3 : froF M (up2 (up2 (up2 (up2 M0 5 3 (nI (tplc T n))) 7 n (nI (tplc T n))) 5 3 (nI (tkA T (tplc T n)).2.1)) 6 n (tkA T (tplc T n)).1) := fun x y q1 q2 q3 => by rw [up2_n1 _ _ q2, up2_nb q1, up2_n1 _ _ q3, up2_nb q1]; exact hF x y q1 q2 q3
      have hJ3 : froJ J J1 := fun x y q => (hJ1 x y (fun z => q z.1)).trans (hJ x y q)
      have en : ent T (up2 (up2 (up2 (up2 M0 5 3 (nI (tplc T n))) 7 n (nI (tplc T n))) 5 3 (nI (tkA T (tplc T n)).2.1)) 6 n (tkA T (tplc T n)).1) J1 n := ⟨up2_eq _ _ _ _, by rw [up2_n1 _ _ (by decide), up2_n1 _ _ (by decide), up2_eq]; rfl, hw1, hnu⟩
      have eo : ∀ m, m < n → ent T (up2 (up2 (up2 (up2 M0 5 3 (nI (tplc T n))) 7 n (nI (tplc T n))) 5 3 (nI (tkA T (tplc T n)).2.1)) 6 n (tkA T (tplc T n)).1) J1 m := fun m hm => (he m hm).o (by rw [up2_n2 _ _ (by omega), up2_n1 _ _ (by decide), up2_n1 _ _ (by decide), up2_n1 _ _ (by decide)]) (by rw [up2_n1 _ _ (by decide), up2_n1 _ _ (by decide), up2_n2 _ _ (by omega), up2_n1 _ _ (by decide)]) (hJ1 8 m (fun z => by omega))
      have e53 : (up2 (up2 (up2 (up2 M0 5 3 (nI (tplc T n))) 7 n (nI (tplc T n))) 5 3 (nI (tkA T (tplc T n)).2.1)) 6 n (tkA T (tplc T n)).1) 5 3 = nI (tpos T (n + 1)) := by rw [up2_n1 _ _ (by decide), up2_eq]; rfl
      refine g_aload_n C dX5_readFrom_47 rfl ?_
      refine g_getr (j := 6) C F5 (by rw [hw]; decide) rfl (by decide) 0 (by decide) rfl (hts (.fieldLink RX5 9 "FallBench$Tokens" "kinds" "[I") (by decide +kernel)) rfl (hR (5, 0, 6) (by decide)) dX5_readFrom_48 ?_
      refine g_iload_n C dX5_readFrom_51 rfl ?_
      refine g_iald (v := tK T n) C (by rw [hw]; decide) rfl (vp_in_nI (N := 1001) (by omega) (by decide)) (by rw [nI_clamp (by omega), up2_eq]; rfl) dX5_readFrom_52 ?_
      refine g_if_eq (tgt := 71) C dX5_readFrom_53 (by decide) (fun c53 => ?_) (fun c53 => ?_)
      · refine g_iconst (v := 0) C dX5_readFrom_71 (by decide) ?_
        refine g_istore_n C V.2.1 dX5_readFrom_72 (by decide) rfl ?_
        refine g_iinc (v := nI (n + 1)) C V.2.1 dX5_readFrom_73 rfl (nI_succ n).symm (by decide) rfl ?_
        refine g_goto (tgt := 9) C dX5_readFrom_76 (by decide) ?_
        exact fin (n + 1) _ _ hF3 hJ3 (fun m hm => by
            rcases Nat.lt_or_ge m n with g | g
            · exact eo m g
            · rcases Nat.lt_or_ge n m with g2 | g2
              · exact absurd c53 (hm n g2).1
              · obtain rfl : m = n := by omega
                exact en)
      · refine g_aload_n C dX5_readFrom_56 rfl ?_
        refine g_getr (j := 6) C F5 (by rw [hw]; decide) rfl (by decide) 0 (by decide) rfl (hts (.fieldLink RX5 9 "FallBench$Tokens" "kinds" "[I") (by decide +kernel)) rfl (hR (5, 0, 6) (by decide)) dX5_readFrom_57 ?_
        refine g_iload_n C dX5_readFrom_60 rfl ?_
        refine g_iald (v := tK T n) C (by rw [hw]; decide) rfl (vp_in_nI (N := 1001) (by omega) (by decide)) (by rw [nI_clamp (by omega), up2_eq]; rfl) dX5_readFrom_61 ?_
        refine g_bipush (v := 6) C dX5_readFrom_62 (by decide) ?_
        refine g_icmp_eq (tgt := 71) C dX5_readFrom_64 (by decide) (fun c64 => ?_) (fun c64 => ?_)
        · refine g_iconst (v := 0) C dX5_readFrom_71 (by decide) ?_
          refine g_istore_n C V.2.1 dX5_readFrom_72 (by decide) rfl ?_
          refine g_iinc (v := nI (n + 1)) C V.2.1 dX5_readFrom_73 rfl (nI_succ n).symm (by decide) rfl ?_
          refine g_goto (tgt := 9) C dX5_readFrom_76 (by decide) ?_
          exact fin (n + 1) _ _ hF3 hJ3 (fun m hm => by
              rcases Nat.lt_or_ge m n with g | g
              · exact eo m g
              · rcases Nat.lt_or_ge n m with g2 | g2
                · exact absurd c64 (hm n g2).2
                · obtain rfl : m = n := by omega
                  exact en)
        · refine g_iconst (v := 1) C dX5_readFrom_67 (by decide) ?_
          refine g_goto (tgt := 72) C dX5_readFrom_68 (by decide) ?_
          refine g_istore_n C V.2.1 dX5_readFrom_72 (by decide) rfl ?_
          refine g_iinc (v := nI (n + 1)) C V.2.1 dX5_readFrom_73 rfl (nI_succ n).symm (by decide) rfl ?_
          refine g_goto (tgt := 9) C dX5_readFrom_76 (by decide) ?_
          exact ih (n + 1) _ _ (by omega) (live_s h2 c53 c64) e53 hF3 hJ3 (fun m hm => by
              rcases Nat.lt_or_ge m n with g | g
              · exact eo m g
              · obtain rfl : m = n := by omega
                exact en)
  refine g_aload_n C dX5_readFrom_0 rfl ?_
  refine g_iconst (v := 0) C dX5_readFrom_1 (by decide) ?_
  refine g_puti C F5 (by rw [hw]; decide) rfl (by decide) 3 (by decide) rfl (hts (.fieldLink RX5 22 "FallBench$Tokens" "next" "I") (by decide +kernel)) rfl rfl rfl rfl dX5_readFrom_2 ?_
  refine g_iconst (v := 1) C dX5_readFrom_5 (by decide) ?_
  refine g_istore_n C V.2.1 dX5_readFrom_6 (by decide) rfl ?_
  refine g_iconst (v := 0) C dX5_readFrom_7 (by decide) ?_
  refine g_istore_n C V.2.1 dX5_readFrom_8 (by decide) rfl ?_
  exact loop 1001 0 _ _ (by decide) (live_0 T) (up2_eq _ _ _ _) (fun x y q1 q2 q3 => up2_nb q1) (fun _ _ _ => rfl) (fun m hm => absurd hm (Nat.not_lt_zero m))
