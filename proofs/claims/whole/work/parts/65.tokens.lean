/-! TOKENS: the row of tokens, cell 5 (kinds 6, places 7, values 8, next: field 3), of the text in row 1 -/
theorem up2_tw {α : Type} (M : Nat → Nat → α) (i k : Nat) (v v' : α) : up2 (up2 M i k v) i k v' = up2 M i k v' := by
  funext a b; simp only [up2]; split <;> rfl
theorem gN_X5_44 {U : State} (h : gNest U) : va_Nw (.methodLinkNest RX5 44 yX7_isLetter RX7) U := h.2.2.2.2.2.2.2.2.1
theorem gN_X5_51 {U : State} (h : gNest U) : va_Nw (.methodLinkNest RX5 51 yX7_isDigit RX7) U := h.2.2.2.2.2.2.2.2.2.1
theorem gN_X5_57 {U : State} (h : gNest U) : va_Nw (.methodLinkNest RX5 57 yX7_withLetter RX7) U := h.2.2.2.2.2.2.2.2.2.2.1
theorem row_o1 {M M' : Nat → Nat → Int32} {T : List Int32} (h : rowIs M 1 T) (e : ∀ a b, 1 ≤ a → a ≤ 2 → M' a b = M a b) : rowIs M' 1 T := h.o e
theorem bt_at {M : Nat → Nat → Int32} {T : List Int32} (h : rowIs M 1 T) (hT : T.length ≤ 1000) {p : Nat} (hp : p < 2 ^ 31) {k : Int32} (hk : k = nI p) : b_at M 1 k = bt T p := by
  rw [hk, h.at, bt_in (by omega) hp]
theorem nI_p2 (p : Nat) : nI p + 2 = nI (p + 2) := nI_add p 2
theorem nI_p1 (p : Nat) : nI p + 1 = nI (p + 1) := nI_add p 1

theorem hdX5_skipBlanks : yX5_skipBlanks.cls = cR 5 ∧ yX5_skipBlanks.cls ≠ "java/lang/invoke/MethodHandle" ∧ yX5_skipBlanks.cls ≠ "java/lang/invoke/VarHandle" ∧ (parseMethodDescriptor yX5_skipBlanks.desc).map (fun d => d.parameters.length) = some 1 := by decide +kernel

theorem hdX5_isRegister : yX5_isRegister.cls = cR 5 ∧ yX5_isRegister.cls ≠ "java/lang/invoke/MethodHandle" ∧ yX5_isRegister.cls ≠ "java/lang/invoke/VarHandle" ∧ (parseMethodDescriptor yX5_isRegister.desc).map (fun d => d.parameters.length) = some 1 := by decide +kernel

theorem hdX5_readWord : yX5_readWord.cls = cR 5 ∧ yX5_readWord.cls ≠ "java/lang/invoke/MethodHandle" ∧ yX5_readWord.cls ≠ "java/lang/invoke/VarHandle" ∧ (parseMethodDescriptor yX5_readWord.desc).map (fun d => d.parameters.length) = some 2 := by decide +kernel

theorem hdX5_readNumber : yX5_readNumber.cls = cR 5 ∧ yX5_readNumber.cls ≠ "java/lang/invoke/MethodHandle" ∧ yX5_readNumber.cls ≠ "java/lang/invoke/VarHandle" ∧ (parseMethodDescriptor yX5_readNumber.desc).map (fun d => d.parameters.length) = some 2 := by decide +kernel

theorem hdX5_readKind : yX5_readKind.cls = cR 5 ∧ yX5_readKind.cls ≠ "java/lang/invoke/MethodHandle" ∧ yX5_readKind.cls ≠ "java/lang/invoke/VarHandle" ∧ (parseMethodDescriptor yX5_readKind.desc).map (fun d => d.parameters.length) = some 2 := by decide +kernel

theorem hdX5_readFrom : yX5_readFrom.cls = cR 5 ∧ yX5_readFrom.cls ≠ "java/lang/invoke/MethodHandle" ∧ yX5_readFrom.cls ≠ "java/lang/invoke/VarHandle" ∧ (parseMethodDescriptor yX5_readFrom.desc).map (fun d => d.parameters.length) = some 1 := by decide +kernel

set_option maxHeartbeats 4000000 in
set_option maxRecDepth 100000 in
theorem c_X5_skipBlanks {l : Launch} {D : va_G} {w : gw} {M : Nat → Nat → Int32} {J : Nat → Nat → Int64} {R : Nat → Nat → Option Nat} (hw : w.1 = 166) (hR : LayC R) {T : List Int32} (hT : T.length ≤ 1000) (hI : rowIs M 1 T) {a : Nat} (hn : M 5 3 = nI a) (ha : a ≤ T.length) : Cf l yX5_skipBlanks wsX5_skipBlanks ({ frames := 1, cells := 0, slots := 0, locals := 21 } : Room) D w [.ref (w.2.1 5), .ref (w.2.1 1)] M J R none (up2 M 5 3 (nI (skp T a))) J R := by
  have r1 := row_1 hw hR
  refine Cg.of (own := RX5) (cc := cX5_skipBlanks) (maxL := 2) (ret := none) 0 (by decide) rfl rfl (Nat.le_of_ble_eq_true rfl) (fun X C hts V Rr => ?_)
  have F5 : FW X 5 := fun q h => hts q (List.mem_cons_of_mem _ (List.mem_append_left _ (List.mem_append_right _ h)))
  have F3 : FW X 3 := fun q h => hts q (List.mem_cons_of_mem _ (List.mem_append_right _ h))
  show Gj X 0 0 w M J R 0 [some (.ref (w.2.1 5)), some (.ref (w.2.1 1))] []
  have loop : ∀ dd p, p + dd = T.length + 1 → p ≤ T.length → skp T p = skp T a → Gj X 0 0 w (up2 M 5 3 (nI p)) J R 0 [some (.ref (w.2.1 5)), some (.ref (w.2.1 1))] [] := by
    intro dd
    induction dd with
    | zero => intro p h1 h2; omega
    | succ dd ih =>
      intro p h1 h2 h3
      have hb : b_at (up2 M 5 3 (nI p)) 1 (nI p) = bt T p := bt_at (hI.o (fun x y q1 q2 => up2_n1 _ _ (by omega))) hT (by omega) rfl
      refine g_aload_n C dX5_skipBlanks_0 rfl ?_
      refine g_geti (v := nI p) C F5 (by rw [hw]; decide) rfl (by decide) 3 (by decide) rfl (hts (.fieldLink RX5 22 "FallBench$Tokens" "next" "I") (by decide +kernel)) rfl (up2_eq _ _ _ _) dX5_skipBlanks_1 ?_
      refine g_sipush (v := 1000) C dX5_skipBlanks_4 (by decide) ?_
      refine g_icmp_ge (tgt := 36) C dX5_skipBlanks_7 (by decide) (fun c7 => ?_) (fun c7 => ?_)
      · exact g_vret C Rr ⟨rfl, ⟨rfl, by have hp := (nI_leI (a := 1000) (by decide) (by omega)).mp c7; rw [← h3, skp_n (fun z => by rw [getD_ge (by omega)] at z; exact absurd z (by decide))]⟩⟩ dX5_skipBlanks_36
      · refine g_aload_n C dX5_skipBlanks_10 rfl ?_
        refine g_aload_n C dX5_skipBlanks_11 rfl ?_
        refine g_geti (v := nI p) C F5 (by rw [hw]; decide) rfl (by decide) 3 (by decide) rfl (hts (.fieldLink RX5 22 "FallBench$Tokens" "next" "I") (by decide +kernel)) rfl (up2_eq _ _ _ _) dX5_skipBlanks_12 ?_
        refine g_callVf C hts V (i := 1) (gX5_skipBlanks_X3_byteAt) rfl hdX3_byteAt (by decide) (Cf.to (c_X3_byteAt r1) (congrArg (fun z => some (Value.int z)) hb) rfl) (by rw [hw]; decide) rfl (by decide) rfl rfl (Nat.le_of_ble_eq_true rfl) dX5_skipBlanks_15 ?_
        refine g_bipush (v := 32) C dX5_skipBlanks_18 (by decide) ?_
        refine g_icmp_ne (tgt := 36) C dX5_skipBlanks_20 (by decide) (fun c20 => ?_) (fun c20 => ?_)
        · exact g_vret C Rr ⟨rfl, ⟨rfl, by rw [← h3, skp_n (fun z => c20 ((bt_eq (by decide) (by decide)).mpr z))]⟩⟩ dX5_skipBlanks_36
        · refine g_aload_n C dX5_skipBlanks_23 rfl ?_
          refine g_dup C dX5_skipBlanks_24 rfl ?_
          refine g_geti (v := nI p) C F5 (by rw [hw]; decide) rfl (by decide) 3 (by decide) rfl (hts (.fieldLink RX5 22 "FallBench$Tokens" "next" "I") (by decide +kernel)) rfl (up2_eq _ _ _ _) dX5_skipBlanks_25 ?_
          refine g_iconst (v := 1) C dX5_skipBlanks_28 (by decide) ?_
          refine g_iadd C dX5_skipBlanks_29 ?_
          refine g_puti C F5 (by rw [hw]; decide) rfl (by decide) 3 (by decide) rfl (hts (.fieldLink RX5 22 "FallBench$Tokens" "next" "I") (by decide +kernel)) rfl rfl rfl rfl dX5_skipBlanks_30 ?_
          refine g_goto (tgt := 0) C dX5_skipBlanks_33 (by decide) ?_
          rw [up2_tw, nI_p1]
          have hs : T.getD p 0 = 32 := (bt_eq (by decide) (by decide)).mp c20
          exact ih (p + 1) (by omega) (by have := (qB_t.mpr hs).1; omega) (by rw [← skp_c hs]; exact h3)
  have hM : M = up2 M 5 3 (nI a) := (up2_id M 5 3 hn).symm
  have h9 := loop (T.length + 1 - a) a (by omega) ha rfl
  rw [← hM] at h9
  exact h9

def rgI (T : List Int32) (a : Nat) : Int32 := if bt T a = 114 then (if bt T (a + 1) < 48 then 0 else if 56 ≤ bt T (a + 1) then 0 else if isLe (bt T (a + 2)) = 0 then (if isDi (bt T (a + 2)) = 0 then 1 else 0) else 0) else 0
theorem rgI_is (T : List Int32) (a : Nat) : rgI T a = if isRg T a then 1 else 0 := by
  unfold rgI
  rw [bt_Le, bt_Di]
  by_cases h1 : bt T a = 114
  · have g1 := (bt_eq (by decide) (by decide)).mp h1
    rw [if_pos h1]
    by_cases h2 : bt T (a + 1) < 48
    · rw [if_pos h2, if_neg]
      rintro ⟨-, z, -⟩
      refine z ?_
      unfold bt at h2
      by_cases q : a + 1 < T.length
      · rw [if_pos q] at h2; exact h2
      · rw [getD_ge (by omega)]; decide
    · have q : a + 1 < T.length := by
        rcases Nat.lt_or_ge (a + 1) T.length with q | q
        · exact q
        · exact absurd (show bt T (a + 1) < 48 by unfold bt; rw [if_neg (by omega)]; decide) h2
      have e : bt T (a + 1) = T.getD (a + 1) 0 := by unfold bt; rw [if_pos q]
      rw [e] at h2 ⊢
      rw [if_neg h2]
      by_cases h3 : 56 ≤ T.getD (a + 1) 0
      · rw [if_pos h3, if_neg (fun z => absurd z.2.2.1 (by rw [Int32.lt_iff_toInt_lt]; rw [Int32.le_iff_toInt_le] at h3; omega))]
      · rw [if_neg h3]
        by_cases h4 : isLe (T.getD (a + 2) 0) = 0
        · rw [if_pos h4]
          by_cases h5 : isDi (T.getD (a + 2) 0) = 0
          · rw [if_pos h5, if_pos ⟨g1, h2, lt_of_nle h3, h4, h5⟩]
          · rw [if_neg h5, if_neg (fun z => h5 z.2.2.2.2)]
        · rw [if_neg h4, if_neg (fun z => h4 z.2.2.2.1)]
  · rw [if_neg h1, if_neg (fun z => h1 ((bt_eq (by decide) (by decide)).mpr z.1))]

set_option maxHeartbeats 4000000 in
set_option maxRecDepth 100000 in
theorem c_X5_isRegister {l : Launch} {D : va_G} {w : gw} {M : Nat → Nat → Int32} {J : Nat → Nat → Int64} {R : Nat → Nat → Option Nat} (hw : w.1 = 166) (hR : LayC R) {T : List Int32} (hT : T.length ≤ 1000) (hI : rowIs M 1 T) {a : Nat} (hn : M 5 3 = nI a) (ha : a ≤ T.length) : Cf l yX5_isRegister wsX5_isRegister ({ frames := 1, cells := 0, slots := 0, locals := 21 } : Room) D w [.ref (w.2.1 5), .ref (w.2.1 1)] M J R (some (.int (if isRg T a then 1 else 0))) M J R := by
  have r1 := row_1 hw hR
  have hb0 : b_at M 1 (nI a) = bt T a := bt_at hI hT (by omega) rfl
  have hb1 : b_at M 1 (nI a + 1) = bt T (a + 1) := bt_at hI hT (by omega) (nI_p1 a)
  have hb2 : b_at M 1 (nI a + 2) = bt T (a + 2) := bt_at hI hT (by omega) (nI_p2 a)
  refine Cg.of (own := RX5) (cc := cX5_isRegister) (maxL := 4) (ret := (some .boolean)) 2 (by decide) rfl rfl (Nat.le_of_ble_eq_true rfl) (fun X C hts V Rr => ?_)
  have F5 : FW X 5 := fun q h => hts q (List.mem_cons_of_mem _ (List.mem_append_left _ (List.mem_append_right _ h)))
  have F3 : FW X 3 := fun q h => hts q (List.mem_cons_of_mem _ (List.mem_append_right _ h))
  show Gj X 0 0 w M J R 0 [some (.ref (w.2.1 5)), some (.ref (w.2.1 1)), none, none] []
  refine g_aload_n C dX5_isRegister_0 rfl ?_
  refine g_aload_n C dX5_isRegister_1 rfl ?_
  refine g_geti (v := nI a) C F5 (by rw [hw]; decide) rfl (by decide) 3 (by decide) rfl (hts (.fieldLink RX5 22 "FallBench$Tokens" "next" "I") (by decide +kernel)) rfl hn dX5_isRegister_2 ?_
  refine g_iconst (v := 1) C dX5_isRegister_5 (by decide) ?_
  refine g_iadd C dX5_isRegister_6 ?_
  refine g_callVf C hts V (i := 1) (gX5_isRegister_X3_byteAt) rfl hdX3_byteAt (by decide) (Cf.to (c_X3_byteAt r1) (congrArg (fun z => some (Value.int z)) hb1) rfl) (by rw [hw]; decide) rfl (by decide) rfl rfl (Nat.le_of_ble_eq_true rfl) dX5_isRegister_7 ?_
  refine g_istore_n C V.2.1 dX5_isRegister_10 (by decide) rfl ?_
  refine g_aload_n C dX5_isRegister_11 rfl ?_
  refine g_aload_n C dX5_isRegister_12 rfl ?_
  refine g_geti (v := nI a) C F5 (by rw [hw]; decide) rfl (by decide) 3 (by decide) rfl (hts (.fieldLink RX5 22 "FallBench$Tokens" "next" "I") (by decide +kernel)) rfl hn dX5_isRegister_13 ?_
  refine g_iconst (v := 2) C dX5_isRegister_16 (by decide) ?_
  refine g_iadd C dX5_isRegister_17 ?_
  refine g_callVf C hts V (i := 1) (gX5_isRegister_X3_byteAt) rfl hdX3_byteAt (by decide) (Cf.to (c_X3_byteAt r1) (congrArg (fun z => some (Value.int z)) hb2) rfl) (by rw [hw]; decide) rfl (by decide) rfl rfl (Nat.le_of_ble_eq_true rfl) dX5_isRegister_18 ?_
  refine g_istore_n C V.2.1 dX5_isRegister_21 (by decide) rfl ?_
  refine g_aload_n C dX5_isRegister_22 rfl ?_
  refine g_aload_n C dX5_isRegister_23 rfl ?_
  refine g_geti (v := nI a) C F5 (by rw [hw]; decide) rfl (by decide) 3 (by decide) rfl (hts (.fieldLink RX5 22 "FallBench$Tokens" "next" "I") (by decide +kernel)) rfl hn dX5_isRegister_24 ?_
  refine g_callVf C hts V (i := 1) (gX5_isRegister_X3_byteAt) rfl hdX3_byteAt (by decide) (Cf.to (c_X3_byteAt r1) (congrArg (fun z => some (Value.int z)) hb0) rfl) (by rw [hw]; decide) rfl (by decide) rfl rfl (Nat.le_of_ble_eq_true rfl) dX5_isRegister_27 ?_
  refine g_bipush (v := 114) C dX5_isRegister_30 (by decide) ?_
  refine g_icmp_ne (tgt := 65) C dX5_isRegister_32 (by decide) (fun c32 => ?_) (fun c32 => ?_)
  · refine g_iconst (v := 0) C dX5_isRegister_65 (by decide) ?_
    exact g_zret C Rr rfl ⟨rfl, ⟨by rw [← rgI_is]; simp only [rgI, if_neg c32], rfl⟩⟩ dX5_isRegister_66
  · refine g_iload_n C dX5_isRegister_35 rfl ?_
    refine g_bipush (v := 48) C dX5_isRegister_36 (by decide) ?_
    refine g_icmp_lt (tgt := 65) C dX5_isRegister_38 (by decide) (fun c38 => ?_) (fun c38 => ?_)
    · refine g_iconst (v := 0) C dX5_isRegister_65 (by decide) ?_
      exact g_zret C Rr rfl ⟨rfl, ⟨by rw [← rgI_is]; simp only [rgI, if_pos c32, if_pos c38], rfl⟩⟩ dX5_isRegister_66
    · refine g_iload_n C dX5_isRegister_41 rfl ?_
      refine g_bipush (v := 56) C dX5_isRegister_42 (by decide) ?_
      refine g_icmp_ge (tgt := 65) C dX5_isRegister_44 (by decide) (fun c44 => ?_) (fun c44 => ?_)
      · refine g_iconst (v := 0) C dX5_isRegister_65 (by decide) ?_
        exact g_zret C Rr rfl ⟨rfl, ⟨by rw [← rgI_is]; simp only [rgI, if_pos c32, if_neg c38, if_pos c44], rfl⟩⟩ dX5_isRegister_66
      · refine g_iload_n C dX5_isRegister_47 rfl ?_
        refine g_callNf C hts V (gX5_isRegister_X7_isLetter_n44) rfl (gN_X5_44 C.2.2.2.2.2.1) (hts (.static yX7_isLetter) (by decide +kernel)) (hts (.initialized RX7) (by decide +kernel)) hdX7_isLetter (by decide) c_X7_isLetter rfl rfl (Nat.le_of_ble_eq_true rfl) dX5_isRegister_48 ?_
        refine g_if_ne (tgt := 65) C dX5_isRegister_51 (by decide) (fun c51 => ?_) (fun c51 => ?_)
        · refine g_iconst (v := 0) C dX5_isRegister_65 (by decide) ?_
          exact g_zret C Rr rfl ⟨rfl, ⟨by rw [← rgI_is]; simp only [rgI, if_pos c32, if_neg c38, if_neg c44, if_neg c51], rfl⟩⟩ dX5_isRegister_66
        · refine g_iload_n C dX5_isRegister_54 rfl ?_
          refine g_callNf C hts V (gX5_isRegister_X7_isDigit_n51) rfl (gN_X5_51 C.2.2.2.2.2.1) (hts (.static yX7_isDigit) (by decide +kernel)) (hts (.initialized RX7) (by decide +kernel)) hdX7_isDigit (by decide) c_X7_isDigit rfl rfl (Nat.le_of_ble_eq_true rfl) dX5_isRegister_55 ?_
          refine g_if_ne (tgt := 65) C dX5_isRegister_58 (by decide) (fun c58 => ?_) (fun c58 => ?_)
          · refine g_iconst (v := 0) C dX5_isRegister_65 (by decide) ?_
            exact g_zret C Rr rfl ⟨rfl, ⟨by rw [← rgI_is]; simp only [rgI, if_pos c32, if_neg c38, if_neg c44, if_pos c51, if_neg c58], rfl⟩⟩ dX5_isRegister_66
          · refine g_iconst (v := 1) C dX5_isRegister_61 (by decide) ?_
            refine g_goto (tgt := 66) C dX5_isRegister_62 (by decide) ?_
            exact g_zret C Rr rfl ⟨rfl, ⟨by rw [← rgI_is]; simp only [rgI, if_pos c32, if_neg c38, if_neg c44, if_pos c51, if_pos c58], rfl⟩⟩ dX5_isRegister_66

set_option maxHeartbeats 4000000 in
set_option maxRecDepth 100000 in
theorem c_X5_readWord {l : Launch} {D : va_G} {w : gw} {M : Nat → Nat → Int32} {J : Nat → Nat → Int64} {R : Nat → Nat → Option Nat} (hw : w.1 = 166) (hR : LayC R) {T : List Int32} (hT : T.length ≤ 1000) (hI : rowIs M 1 T) {a : Nat} (hn : M 5 3 = nI a) (ha : a ≤ T.length) {n : Nat} (hnn : n ≤ 1000) : Cf l yX5_readWord wsX5_readWord ({ frames := 1, cells := 0, slots := 0, locals := 22 } : Room) D w [.ref (w.2.1 5), .ref (w.2.1 1), .int (nI n)] M J R (some (.int (if (tw qL T a).length ≤ 8 then 1 else 0))) (up2 M 5 3 (nI (a + (tw qL T a).length))) (up2 J 8 n (enc5 (tw qL T a))) R := by
  have r1 := row_1 hw hR
  refine Cg.of (own := RX5) (cc := cX5_readWord) (maxL := 6) (ret := (some .int)) 3 (by decide) rfl rfl (Nat.le_of_ble_eq_true rfl) (fun X C hts V Rr => ?_)
  have F5 : FW X 5 := fun q h => hts q (List.mem_cons_of_mem _ (List.mem_append_left _ (List.mem_append_right _ h)))
  have F3 : FW X 3 := fun q h => hts q (List.mem_cons_of_mem _ (List.mem_append_right _ h))
  show Gj X 0 0 w M J R 0 [some (.ref (w.2.1 5)), some (.ref (w.2.1 1)), some (.int (nI n)), none, none, none] []
  have loop : ∀ dd p j v, p + dd = T.length + 1 → p ≤ T.length → p = a + j → j + (tw qL T p).length = (tw qL T a).length → (tw qL T p).foldl f5 v = enc5 (tw qL T a) → Gj X 0 0 w (up2 M 5 3 (nI p)) J R 5 [some (.ref (w.2.1 5)), some (.ref (w.2.1 1)), some (.int (nI n)), some (.int (nI j)), some (.long v), none] [] := by
    intro dd
    induction dd with
    | zero => intro p j v h1 h2; omega
    | succ dd ih =>
      intro p j v h1 h2 h3 h4 h5
      have hb : b_at (up2 M 5 3 (nI p)) 1 (nI p) = bt T p := bt_at (hI.o (fun x y q1 q2 => up2_n1 _ _ (by omega))) hT (by omega) rfl
      have fin : tw qL T p = [] → Gj X 0 0 w (up2 M 5 3 (nI p)) J R 57 [some (.ref (w.2.1 5)), some (.ref (w.2.1 1)), some (.int (nI n)), some (.int (nI j)), some (.long v), none] [] := by
        intro h0
        rw [h0] at h4 h5
        have h4 : j = (tw qL T a).length := h4
        have h5 : v = enc5 (tw qL T a) := h5
        have hl := tw_le qL T ha
        refine g_aload_n C dX5_readWord_57 rfl ?_
        refine g_getr (j := 8) C F5 (by rw [hw]; decide) rfl (by decide) 2 (by decide) rfl (hts (.fieldLink RX5 18 "FallBench$Tokens" "values" "[J") (by decide +kernel)) rfl (hR (5, 2, 8) (by decide)) dX5_readWord_58 ?_
        refine g_iload_n C dX5_readWord_61 rfl ?_
        refine g_lload C dX5_readWord_62 rfl ?_
        refine g_last C (by rw [hw]; decide) rfl (vp_in_nI (N := 1001) (by omega) (by decide)) dX5_readWord_64 ?_
        refine g_iload_n C dX5_readWord_65 rfl ?_
        refine g_bipush (v := 8) C dX5_readWord_66 (by decide) ?_
        refine g_icmp_gt (tgt := 75) C dX5_readWord_68 (by decide) (fun c68 => ?_) (fun c68 => ?_)
        · refine g_iconst (v := 0) C dX5_readWord_75 (by decide) ?_
          exact g_iret C Rr ⟨rfl, ⟨by rw [if_neg (fun z => absurd c68 (fun y => absurd ((nI_ltI (a := 8) (by decide) (by omega)).mp y) (by omega)))], by rw [h3, h4, h5, nI_clamp (by omega)]⟩⟩ dX5_readWord_76
        · refine g_iconst (v := 1) C dX5_readWord_71 (by decide) ?_
          refine g_goto (tgt := 76) C dX5_readWord_72 (by decide) ?_
          exact g_iret C Rr ⟨rfl, ⟨by rw [if_pos (by rcases Nat.lt_or_ge 8 (tw qL T a).length with z | z; exact absurd (nI_lt (a := 8) (b := j) (by omega) (by omega)) c68; exact z)], by rw [h3, h4, h5, nI_clamp (by omega)]⟩⟩ dX5_readWord_76
      refine g_iload_n C dX5_readWord_5 rfl ?_
      refine g_sipush (v := 1000) C dX5_readWord_6 (by decide) ?_
      refine g_icmp_ge (tgt := 57) C dX5_readWord_9 (by decide) (fun c9 => ?_) (fun c9 => ?_)
      · exact fin (tw_n (fun z => absurd z.1 (by have := (nI_leI (a := 1000) (b := j) (by decide) (by omega)).mp c9; omega)))
      · refine g_aload_n C dX5_readWord_12 rfl ?_
        refine g_aload_n C dX5_readWord_13 rfl ?_
        refine g_geti (v := nI p) C F5 (by rw [hw]; decide) rfl (by decide) 3 (by decide) rfl (hts (.fieldLink RX5 22 "FallBench$Tokens" "next" "I") (by decide +kernel)) rfl (up2_eq _ _ _ _) dX5_readWord_14 ?_
        refine g_callVf C hts V (i := 1) (gX5_readWord_X3_byteAt) rfl hdX3_byteAt (by decide) (Cf.to (c_X3_byteAt r1) (congrArg (fun z => some (Value.int z)) hb) rfl) (by rw [hw]; decide) rfl (by decide) rfl rfl (Nat.le_of_ble_eq_true rfl) dX5_readWord_17 ?_
        refine g_callNf C hts V (gX5_readWord_X7_isLetter_n44) rfl (gN_X5_44 C.2.2.2.2.2.1) (hts (.static yX7_isLetter) (by decide +kernel)) (hts (.initialized RX7) (by decide +kernel)) hdX7_isLetter (by decide) c_X7_isLetter rfl rfl (Nat.le_of_ble_eq_true rfl) dX5_readWord_20 ?_
        refine g_if_eq (tgt := 57) C dX5_readWord_23 (by decide) (fun c23 => ?_) (fun c23 => ?_)
        · exact fin (tw_n (fun z => absurd c23 (by rw [bt_Le]; exact qL_t.mp z)))
        · refine g_lload C dX5_readWord_26 rfl ?_
          refine g_aload_n C dX5_readWord_28 rfl ?_
          refine g_aload_n C dX5_readWord_29 rfl ?_
          refine g_geti (v := nI p) C F5 (by rw [hw]; decide) rfl (by decide) 3 (by decide) rfl (hts (.fieldLink RX5 22 "FallBench$Tokens" "next" "I") (by decide +kernel)) rfl (up2_eq _ _ _ _) dX5_readWord_30 ?_
          refine g_callVf C hts V (i := 1) (gX5_readWord_X3_byteAt) rfl hdX3_byteAt (by decide) (Cf.to (c_X3_byteAt r1) (congrArg (fun z => some (Value.int z)) hb) rfl) (by rw [hw]; decide) rfl (by decide) rfl rfl (Nat.le_of_ble_eq_true rfl) dX5_readWord_33 ?_
          refine g_callNf C hts V (gX5_readWord_X7_withLetter_n57) rfl (gN_X5_57 C.2.2.2.2.2.1) (hts (.static yX7_withLetter) (by decide +kernel)) (hts (.initialized RX7) (by decide +kernel)) hdX7_withLetter (by decide) c_X7_withLetter rfl rfl (Nat.le_of_ble_eq_true rfl) dX5_readWord_36 ?_
          refine g_lstore C V.2.1 dX5_readWord_39 (by decide) rfl ?_
          refine g_iinc (v := nI (j + 1)) C V.2.1 dX5_readWord_41 rfl (nI_succ j).symm (by decide) rfl ?_
          refine g_aload_n C dX5_readWord_44 rfl ?_
          refine g_dup C dX5_readWord_45 rfl ?_
          refine g_geti (v := nI p) C F5 (by rw [hw]; decide) rfl (by decide) 3 (by decide) rfl (hts (.fieldLink RX5 22 "FallBench$Tokens" "next" "I") (by decide +kernel)) rfl (up2_eq _ _ _ _) dX5_readWord_46 ?_
          refine g_iconst (v := 1) C dX5_readWord_49 (by decide) ?_
          refine g_iadd C dX5_readWord_50 ?_
          refine g_puti C F5 (by rw [hw]; decide) rfl (by decide) 3 (by decide) rfl (hts (.fieldLink RX5 22 "FallBench$Tokens" "next" "I") (by decide +kernel)) rfl rfl rfl rfl dX5_readWord_51 ?_
          refine g_goto (tgt := 5) C dX5_readWord_54 (by decide) ?_
          have hq := qL_t.mpr (by rw [← bt_Le]; exact c23)
          have hc := tw_c (q := qL) hq.1 hq.2
          have hbq : bt T p = T.getD p 0 := by unfold bt; rw [if_pos hq.1]
          rw [up2_tw, nI_p1]
          rw [hc] at h4 h5
          exact ih (p + 1) (j + 1) _ (by omega) (by have := hq.1; omega) (by omega) (by rw [List.length_cons] at h4; omega) (by rw [hbq]; exact h5)
  have hM : M = up2 M 5 3 (nI a) := (up2_id M 5 3 hn).symm
  have h9 := loop (T.length + 1 - a) a 0 0 (by omega) ha (by omega) (by omega) rfl
  rw [← hM] at h9
  refine g_iconst (v := 0) C dX5_readWord_0 (by decide) ?_
  refine g_istore_n C V.2.1 dX5_readWord_1 (by decide) rfl ?_
  refine g_lconst (v := 0) C dX5_readWord_2 (by decide) ?_
  refine g_lstore C V.2.1 dX5_readWord_3 (by decide) rfl ?_
  exact h9

set_option maxHeartbeats 4000000 in
set_option maxRecDepth 100000 in
theorem c_X5_readNumber {l : Launch} {D : va_G} {w : gw} {M : Nat → Nat → Int32} {J : Nat → Nat → Int64} {R : Nat → Nat → Option Nat} (hw : w.1 = 166) (hR : LayC R) {T : List Int32} (hT : T.length ≤ 1000) (hI : rowIs M 1 T) {a : Nat} (hn : M 5 3 = nI a) (ha : a ≤ T.length) {n : Nat} (hnn : n ≤ 1000) : Cf l yX5_readNumber wsX5_readNumber ({ frames := 1, cells := 0, slots := 0, locals := 21 } : Room) D w [.ref (w.2.1 5), .ref (w.2.1 1), .int (nI n)] M J R (some (.int (if 1 ≤ (ndg T a).length ∧ (ndg T a).length ≤ 6 ∧ isLe (T.getD (nst T a + (ndg T a).length) 0) = 0 then 3 else 0))) (up2 M 5 3 (nI (nst T a + (ndg T a).length))) (up2 J 8 n (if T.getD a 0 = 45 then - numl (ndg T a) else numl (ndg T a))) R := by
  have r1 := row_1 hw hR
  have hb0 : b_at M 1 (nI a) = bt T a := bt_at hI hT (by omega) rfl
  refine Cg.of (own := RX5) (cc := cX5_readNumber) (maxL := 8) (ret := (some .int)) 5 (by decide) rfl rfl (Nat.le_of_ble_eq_true rfl) (fun X C hts V Rr => ?_)
  have F5 : FW X 5 := fun q h => hts q (List.mem_cons_of_mem _ (List.mem_append_left _ (List.mem_append_right _ h)))
  have F3 : FW X 3 := fun q h => hts q (List.mem_cons_of_mem _ (List.mem_append_right _ h))
  show Gj X 0 0 w M J R 0 [some (.ref (w.2.1 5)), some (.ref (w.2.1 1)), some (.int (nI n)), none, none, none, none, none] []
  have loop : ∀ z : Int32, (z = if T.getD a 0 = 45 then 1 else 0) → ∀ dd p j v, p + dd = T.length + 1 → p ≤ T.length → p = nst T a + j → j + (tw qD T p).length = (ndg T a).length → (tw qD T p).foldl fl v = numl (ndg T a) → Gj X 0 0 w (up2 M 5 3 (nI p)) J R 39 [some (.ref (w.2.1 5)), some (.ref (w.2.1 1)), some (.int (nI n)), some (.int z), some (.int (nI j)), some (.long v), none, none] [] := by
    intro z hz dd
    induction dd with
    | zero => intro p j v h1 h2; omega
    | succ dd ih =>
      intro p j v h1 h2 h3 h4 h5
      have hb : b_at (up2 M 5 3 (nI p)) 1 (nI p) = bt T p := bt_at (hI.o (fun x y q1 q2 => up2_n1 _ _ (by omega))) hT (by omega) rfl
      have fin : tw qD T p = [] → Gj X 0 0 w (up2 M 5 3 (nI p)) J R 98 [some (.ref (w.2.1 5)), some (.ref (w.2.1 1)), some (.int (nI n)), some (.int z), some (.int (nI j)), some (.long v), none, none] [] := by
        intro h0
        rw [h0] at h4 h5
        have h4 : j = (ndg T a).length := h4
        have h5 : v = numl (ndg T a) := h5
        have hl : (ndg T a).length ≤ 1000 := by have := tw_le qD T (p := nst T a) (by omega); unfold ndg; omega
        have hz0 : z = 0 → ¬ T.getD a 0 = 45 := fun y q => by rw [hz, if_pos q] at y; exact absurd y (by decide)
        have hz1 : ¬ z = 0 → T.getD a 0 = 45 := fun y => Classical.byContradiction (fun q => y (by rw [hz, if_neg q]))
        subst h5
        have ep : nst T a + (ndg T a).length = p := by omega
        have tail : ∀ J1 : Nat → Nat → Int64, J1 = up2 J 8 n (if T.getD a 0 = 45 then - numl (ndg T a) else numl (ndg T a)) → Gj X 0 0 w (up2 M 5 3 (nI p)) J1 R 116 [some (.ref (w.2.1 5)), some (.ref (w.2.1 1)), some (.int (nI n)), some (.int z), some (.int (nI j)), some (.long (numl (ndg T a))), none, none] [] := by
          intro J1 hJ1
          subst hJ1
          refine g_iload C dX5_readNumber_116 rfl ?_
          refine g_iconst (v := 1) C dX5_readNumber_118 (by decide) ?_
          refine g_icmp_lt (tgt := 147) C dX5_readNumber_119 (by decide) (fun c119 => ?_) (fun c119 => ?_)
          · refine g_iconst (v := 0) C dX5_readNumber_147 (by decide) ?_
            refine g_istore C V.2.1 dX5_readNumber_148 (by decide) rfl ?_
            refine g_iload C dX5_readNumber_150 rfl ?_
            refine g_if_eq (tgt := 159) C dX5_readNumber_152 (by decide) (fun c152 => ?_) (fun c152 => absurd c152 (not_not_intro rfl))
            refine g_iconst (v := 0) C dX5_readNumber_159 (by decide) ?_
            exact g_iret C Rr ⟨rfl, ⟨by rw [if_neg (fun y => absurd ((nI_ltI (a := j) (b := 1) (by omega) (by decide)).mp c119) (by omega))], by rw [ep]⟩⟩ dX5_readNumber_160
          · refine g_iload C dX5_readNumber_122 rfl ?_
            refine g_bipush (v := 6) C dX5_readNumber_124 (by decide) ?_
            refine g_icmp_gt (tgt := 147) C dX5_readNumber_126 (by decide) (fun c126 => ?_) (fun c126 => ?_)
            · refine g_iconst (v := 0) C dX5_readNumber_147 (by decide) ?_
              refine g_istore C V.2.1 dX5_readNumber_148 (by decide) rfl ?_
              refine g_iload C dX5_readNumber_150 rfl ?_
              refine g_if_eq (tgt := 159) C dX5_readNumber_152 (by decide) (fun c152 => ?_) (fun c152 => absurd c152 (not_not_intro rfl))
              refine g_iconst (v := 0) C dX5_readNumber_159 (by decide) ?_
              exact g_iret C Rr ⟨rfl, ⟨by rw [if_neg (fun y => absurd ((nI_ltI (a := 6) (b := j) (by decide) (by omega)).mp c126) (by omega))], by rw [ep]⟩⟩ dX5_readNumber_160
            · refine g_aload_n C dX5_readNumber_129 rfl ?_
              refine g_aload_n C dX5_readNumber_130 rfl ?_
              refine g_geti (v := nI p) C F5 (by rw [hw]; decide) rfl (by decide) 3 (by decide) rfl (hts (.fieldLink RX5 22 "FallBench$Tokens" "next" "I") (by decide +kernel)) rfl (up2_eq _ _ _ _) dX5_readNumber_131 ?_
              refine g_callVf C hts V (i := 1) (gX5_readNumber_X3_byteAt) rfl hdX3_byteAt (by decide) (Cf.to (c_X3_byteAt r1) (congrArg (fun z => some (Value.int z)) hb) rfl) (by rw [hw]; decide) rfl (by decide) rfl rfl (Nat.le_of_ble_eq_true rfl) dX5_readNumber_134 ?_
              refine g_callNf C hts V (gX5_readNumber_X7_isLetter_n44) rfl (gN_X5_44 C.2.2.2.2.2.1) (hts (.static yX7_isLetter) (by decide +kernel)) (hts (.initialized RX7) (by decide +kernel)) hdX7_isLetter (by decide) c_X7_isLetter rfl rfl (Nat.le_of_ble_eq_true rfl) dX5_readNumber_137 ?_
              refine g_if_ne (tgt := 147) C dX5_readNumber_140 (by decide) (fun c140 => ?_) (fun c140 => ?_)
              · refine g_iconst (v := 0) C dX5_readNumber_147 (by decide) ?_
                refine g_istore C V.2.1 dX5_readNumber_148 (by decide) rfl ?_
                refine g_iload C dX5_readNumber_150 rfl ?_
                refine g_if_eq (tgt := 159) C dX5_readNumber_152 (by decide) (fun c152 => ?_) (fun c152 => absurd c152 (not_not_intro rfl))
                refine g_iconst (v := 0) C dX5_readNumber_159 (by decide) ?_
                exact g_iret C Rr ⟨rfl, ⟨by rw [if_neg (fun y => c140 (by rw [bt_Le, ← ep]; exact y.2.2))], by rw [ep]⟩⟩ dX5_readNumber_160
              · refine g_iconst (v := 1) C dX5_readNumber_143 (by decide) ?_
                refine g_goto (tgt := 148) C dX5_readNumber_144 (by decide) ?_
                refine g_istore C V.2.1 dX5_readNumber_148 (by decide) rfl ?_
                refine g_iload C dX5_readNumber_150 rfl ?_
                refine g_if_eq (tgt := 159) C dX5_readNumber_152 (by decide) (fun c152 => absurd c152 (by decide)) (fun c152 => ?_)
                refine g_iconst (v := 3) C dX5_readNumber_155 (by decide) ?_
                refine g_goto (tgt := 160) C dX5_readNumber_156 (by decide) ?_
                exact g_iret C Rr ⟨rfl, ⟨by rw [if_pos ⟨by rcases Nat.lt_or_ge j 1 with y | y; exact absurd (nI_lt (b := 1) y (by decide)) c119; omega, by rcases Nat.lt_or_ge 6 j with y | y; exact absurd (nI_lt (a := 6) y (by omega)) c126; omega, by rw [ep, ← bt_Le]; exact c140⟩], by rw [ep]⟩⟩ dX5_readNumber_160
        refine g_aload_n C dX5_readNumber_98 rfl ?_
        refine g_getr (j := 8) C F5 (by rw [hw]; decide) rfl (by decide) 2 (by decide) rfl (hts (.fieldLink RX5 18 "FallBench$Tokens" "values" "[J") (by decide +kernel)) rfl (hR (5, 2, 8) (by decide)) dX5_readNumber_99 ?_
        refine g_iload_n C dX5_readNumber_102 rfl ?_
        refine g_iload_n C dX5_readNumber_103 rfl ?_
        refine g_if_eq (tgt := 113) C dX5_readNumber_104 (by decide) (fun c104 => ?_) (fun c104 => ?_)
        · refine g_lload C dX5_readNumber_113 rfl ?_
          refine g_last C (by rw [hw]; decide) rfl (vp_in_nI (N := 1001) (by omega) (by decide)) dX5_readNumber_115 ?_
          exact tail _ (by rw [if_neg (hz0 c104), nI_clamp (by omega)])
        · refine g_lload C dX5_readNumber_107 rfl ?_
          refine g_lneg C dX5_readNumber_109 ?_
          refine g_goto (tgt := 115) C dX5_readNumber_110 (by decide) ?_
          refine g_last C (by rw [hw]; decide) rfl (vp_in_nI (N := 1001) (by omega) (by decide)) dX5_readNumber_115 ?_
          exact tail _ (by rw [if_pos (hz1 c104), nI_clamp (by omega)])
      refine g_iload C dX5_readNumber_39 rfl ?_
      refine g_sipush (v := 1000) C dX5_readNumber_41 (by decide) ?_
      refine g_icmp_ge (tgt := 98) C dX5_readNumber_44 (by decide) (fun c44 => ?_) (fun c44 => ?_)
      · exact fin (tw_n (fun y => absurd y.1 (by have := (nI_leI (a := 1000) (b := j) (by decide) (by omega)).mp c44; omega)))
      · refine g_aload_n C dX5_readNumber_47 rfl ?_
        refine g_aload_n C dX5_readNumber_48 rfl ?_
        refine g_geti (v := nI p) C F5 (by rw [hw]; decide) rfl (by decide) 3 (by decide) rfl (hts (.fieldLink RX5 22 "FallBench$Tokens" "next" "I") (by decide +kernel)) rfl (up2_eq _ _ _ _) dX5_readNumber_49 ?_
        refine g_callVf C hts V (i := 1) (gX5_readNumber_X3_byteAt) rfl hdX3_byteAt (by decide) (Cf.to (c_X3_byteAt r1) (congrArg (fun z => some (Value.int z)) hb) rfl) (by rw [hw]; decide) rfl (by decide) rfl rfl (Nat.le_of_ble_eq_true rfl) dX5_readNumber_52 ?_
        refine g_callNf C hts V (gX5_readNumber_X7_isDigit_n51) rfl (gN_X5_51 C.2.2.2.2.2.1) (hts (.static yX7_isDigit) (by decide +kernel)) (hts (.initialized RX7) (by decide +kernel)) hdX7_isDigit (by decide) c_X7_isDigit rfl rfl (Nat.le_of_ble_eq_true rfl) dX5_readNumber_55 ?_
        refine g_if_eq (tgt := 98) C dX5_readNumber_58 (by decide) (fun c58 => ?_) (fun c58 => ?_)
        · exact fin (tw_n (fun y => absurd c58 (by rw [bt_Di]; exact qD_t.mp y)))
        · refine g_lload C dX5_readNumber_61 rfl ?_
          refine g_ldc2 C (hts (.constantLong RX5 61 (10)) (by decide +kernel)) dX5_readNumber_63 ?_
          refine g_lmul C dX5_readNumber_66 ?_
          refine g_aload_n C dX5_readNumber_67 rfl ?_
          refine g_aload_n C dX5_readNumber_68 rfl ?_
          refine g_geti (v := nI p) C F5 (by rw [hw]; decide) rfl (by decide) 3 (by decide) rfl (hts (.fieldLink RX5 22 "FallBench$Tokens" "next" "I") (by decide +kernel)) rfl (up2_eq _ _ _ _) dX5_readNumber_69 ?_
          refine g_callVf C hts V (i := 1) (gX5_readNumber_X3_byteAt) rfl hdX3_byteAt (by decide) (Cf.to (c_X3_byteAt r1) (congrArg (fun z => some (Value.int z)) hb) rfl) (by rw [hw]; decide) rfl (by decide) rfl rfl (Nat.le_of_ble_eq_true rfl) dX5_readNumber_72 ?_
          refine g_bipush (v := 48) C dX5_readNumber_75 (by decide) ?_
          refine g_isub C dX5_readNumber_77 ?_
          refine g_i2l C dX5_readNumber_78 ?_
          refine g_ladd C dX5_readNumber_79 ?_
          refine g_lstore C V.2.1 dX5_readNumber_80 (by decide) rfl ?_
          refine g_iinc (v := nI (j + 1)) C V.2.1 dX5_readNumber_82 rfl (nI_succ j).symm (by decide) rfl ?_
          refine g_aload_n C dX5_readNumber_85 rfl ?_
          refine g_dup C dX5_readNumber_86 rfl ?_
          refine g_geti (v := nI p) C F5 (by rw [hw]; decide) rfl (by decide) 3 (by decide) rfl (hts (.fieldLink RX5 22 "FallBench$Tokens" "next" "I") (by decide +kernel)) rfl (up2_eq _ _ _ _) dX5_readNumber_87 ?_
          refine g_iconst (v := 1) C dX5_readNumber_90 (by decide) ?_
          refine g_iadd C dX5_readNumber_91 ?_
          refine g_puti C F5 (by rw [hw]; decide) rfl (by decide) 3 (by decide) rfl (hts (.fieldLink RX5 22 "FallBench$Tokens" "next" "I") (by decide +kernel)) rfl rfl rfl rfl dX5_readNumber_92 ?_
          refine g_goto (tgt := 39) C dX5_readNumber_95 (by decide) ?_
          have hq := qD_t.mpr (by rw [← bt_Di]; exact c58)
          have hc := tw_c (q := qD) hq.1 hq.2
          have hbq : bt T p = T.getD p 0 := by unfold bt; rw [if_pos hq.1]
          rw [up2_tw, nI_p1]
          rw [hc] at h4 h5
          exact ih (p + 1) (j + 1) _ (by omega) (by have := hq.1; omega) (by omega) (by rw [List.length_cons] at h4; omega) (by rw [hbq]; exact h5)
  have hM : M = up2 M 5 3 (nI a) := (up2_id M 5 3 hn).symm
  refine g_aload_n C dX5_readNumber_0 rfl ?_
  refine g_aload_n C dX5_readNumber_1 rfl ?_
  refine g_geti (v := nI a) C F5 (by rw [hw]; decide) rfl (by decide) 3 (by decide) rfl (hts (.fieldLink RX5 22 "FallBench$Tokens" "next" "I") (by decide +kernel)) rfl hn dX5_readNumber_2 ?_
  refine g_callVf C hts V (i := 1) (gX5_readNumber_X3_byteAt) rfl hdX3_byteAt (by decide) (Cf.to (c_X3_byteAt r1) (congrArg (fun z => some (Value.int z)) hb0) rfl) (by rw [hw]; decide) rfl (by decide) rfl rfl (Nat.le_of_ble_eq_true rfl) dX5_readNumber_5 ?_
  refine g_bipush (v := 45) C dX5_readNumber_8 (by decide) ?_
  refine g_icmp_ne (tgt := 17) C dX5_readNumber_10 (by decide) (fun c10 => ?_) (fun c10 => ?_)
  · refine g_iconst (v := 0) C dX5_readNumber_17 (by decide) ?_
    refine g_istore_n C V.2.1 dX5_readNumber_18 (by decide) rfl ?_
    refine g_iload_n C dX5_readNumber_19 rfl ?_
    refine g_if_eq (tgt := 33) C dX5_readNumber_20 (by decide) (fun c20 => ?_) (fun c20 => absurd c20 (not_not_intro rfl))
    refine g_iconst (v := 0) C dX5_readNumber_33 (by decide) ?_
    refine g_istore C V.2.1 dX5_readNumber_34 (by decide) rfl ?_
    refine g_lconst (v := 0) C dX5_readNumber_36 (by decide) ?_
    refine g_lstore C V.2.1 dX5_readNumber_37 (by decide) rfl ?_
    have hm : ¬ T.getD a 0 = 45 := fun y => c10 ((bt_eq (by decide) (by decide)).mpr y)
    have hs : nst T a = a := by unfold nst; rw [if_neg hm]
    have h9 := loop 0 (by rw [if_neg hm]) (T.length + 1 - a) a 0 0 (by omega) ha (by omega) (by unfold ndg; rw [hs]; omega) (by unfold ndg; rw [hs]; rfl)
    rw [← hM] at h9
    exact h9
  · refine g_iconst (v := 1) C dX5_readNumber_13 (by decide) ?_
    refine g_goto (tgt := 18) C dX5_readNumber_14 (by decide) ?_
    refine g_istore_n C V.2.1 dX5_readNumber_18 (by decide) rfl ?_
    refine g_iload_n C dX5_readNumber_19 rfl ?_
    refine g_if_eq (tgt := 33) C dX5_readNumber_20 (by decide) (fun c20 => absurd c20 (by decide)) (fun c20 => ?_)
    refine g_aload_n C dX5_readNumber_23 rfl ?_
    refine g_dup C dX5_readNumber_24 rfl ?_
    refine g_geti (v := nI a) C F5 (by rw [hw]; decide) rfl (by decide) 3 (by decide) rfl (hts (.fieldLink RX5 22 "FallBench$Tokens" "next" "I") (by decide +kernel)) rfl hn dX5_readNumber_25 ?_
    refine g_iconst (v := 1) C dX5_readNumber_28 (by decide) ?_
    refine g_iadd C dX5_readNumber_29 ?_
    refine g_puti C F5 (by rw [hw]; decide) rfl (by decide) 3 (by decide) rfl (hts (.fieldLink RX5 22 "FallBench$Tokens" "next" "I") (by decide +kernel)) rfl rfl rfl rfl dX5_readNumber_30 ?_
    refine g_iconst (v := 0) C dX5_readNumber_33 (by decide) ?_
    refine g_istore C V.2.1 dX5_readNumber_34 (by decide) rfl ?_
    refine g_lconst (v := 0) C dX5_readNumber_36 (by decide) ?_
    refine g_lstore C V.2.1 dX5_readNumber_37 (by decide) rfl ?_
    have hm : T.getD a 0 = 45 := (bt_eq (by decide) (by decide)).mp c10
    have hs : nst T a = a + 1 := by unfold nst; rw [if_pos hm]
    have hlt : a < T.length := lt_of_getD (by rw [hm]; decide)
    have h9 := loop 1 (by rw [if_pos hm]) (T.length - a) (a + 1) 0 0 (by omega) (by omega) (by omega) (by unfold ndg; rw [hs]; omega) (by unfold ndg; rw [hs]; rfl)
    rw [nI_p1]
    exact h9
